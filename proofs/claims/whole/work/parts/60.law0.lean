/-! THE CLAIM OUT OF ONE WALK OF THE LAW'S BODY. Your part is whole_start (and what it stands on); all else here is the same for every law, but numbers. -/
def R_law : String := "ExactCurvesLaw"
def lw_P (b : Addr) (xs : List Int32) (args : Array Value) (s : State) : Prop := args = #[.ref b] ∧ s.IntsAt b xs ∧ xs.length ≤ 5632 ∧ (Jvm.Cond.and given_1 narrow_1).before args s = true
def lw_Q (_ : Array Value) (s : State) (o : Outcome) (t : State) : Prop := o = .returned (some (.int 1)) ∧ Framed s o t [] 600000 7302250
def lw_Z (below : List Frame) (a : Array Value) (s : State) : State → Prop := fun t => ∃ o, t.status = .running ∧ Ended t below o ∧ lw_Q a s o t
/-- the law's own end, with 1 on the stack, nothing written that was there before, its room as the claim has it -/
theorem lw_ret {p : Program} {l : Launch} {e : Env} {s : State} {m : MethodId} {below : List Frame} {meth : Method} {c : Code} {b : Nat} (hx : p.tables.exec = Jvm.exec) (hb : c.code = code) (hr : meth.sig.returnType = ret) (hlocks : meth.locks = false) {pc : Nat} {H : Heap} {ls : Array Slot} (hdg : decode code pc = .ok (.ireturn, 1)) : W p l e room_1 s m #[Value.ref b] below meth c H [] 600000 7302250 (lw_Z below #[Value.ref b] s) (F0 m pc ls [.int 1]) := by
  intro T hT X
  obtain ⟨fs, hret, hrun, hended, hW, hframe⟩ := X.leave (v := some (.int 1)) (hlocks := hlocks) (fun h => by rw [hr] at h; cases h)
  have hmeth' : T.vm.method? m = some meth := X.method'
  refine ⟨T.setFrames fs, ?_, .returned (some (.int 1)), hrun, hended, rfl, ⟨_, rfl⟩, hW, hframe⟩
  jvm_step X.here [X.here.top, hx, hb, hdg, hmeth', hr, ret, narrow_b1]
  (try refine ⟨rfl, ?_⟩); (try refine ⟨rfl, ?_⟩)
  first | (intro acts; rw [hret _ acts rfl rfl rfl]) | rw [hret _ _ rfl rfl rfl]
  exact Steps.refl _
/-- what holds at the law's entry: the machine, the code, the tables' words (any of lw_tbl by 'hts w (by decide +kernel)'), the script of L ints xs at the cell b, what the Statement gives of the start (any of its parts by flat_of_before) -/
def lw_At (p : Program) (s : State) (m : MethodId) (meth : Method) (c : Code) (b L : Nat) (xs : Nat → Int32) : Prop :=
  p.tables.exec = Jvm.exec ∧ c.code = code ∧ meth.sig.returnType = ret ∧ c.maxLocals = 4 ∧ s.vm.findClass R_law = some m.cls ∧ (∀ w ∈ lw_tbl, w.before #[Value.ref b] s = true) ∧ va_X b L xs s s.heap ∧ b < s.heap.size ∧ meth.locks = false ∧ (Jvm.Cond.and given_1 narrow_1).before #[Value.ref b] s = true
section QZL
variable {p : Program} {l : Launch} {e : Env} {R : Room} {s : State} {m : MethodId} {args : Array Value} {below : List Frame} {meth : Method} {c : Code} {cells slots : Nat} {Q : State → Prop} {G : qz_G} {H0 : Heap} {nL : Nat} {N : qz_N} {pc : Nat} {lv lv' : List (Nat × Value)} {st : List Value} {own : String} {cc : ByteArray} {ret0 : Option FieldType} {b L : Nat} {xs : Nat → Int32}
theorem qz_slen (X : qz_X p s m args meth c own cc nL ret0 G) (hX : va_X b L xs s H0) (hbA : ¬ qz_A G b) (d : decode cc pc = .ok (.arraylength, 1)) (kk : qz_W p l e R s m args below meth c cells slots Q G H0 nL N (pc + 1) lv (.int (Int32.ofNat L) :: st)) : qz_W p l e R s m args below meth c cells slots Q G H0 nL N pc lv (.ref b :: st) := by
  intro H locs ls hP hS hl
  obtain ⟨scr, h1, h2, h3, h4, h5⟩ := hX
  exact W.alen (n := Int32.ofNat L) X.1 X.2.1 (by rw [hS.2.1 b hbA]; exact h1) h2 (by rw [h4] <;> rfl) rfl rfl d (kk H locs ls hP hS hl)
theorem qz_sld (X : qz_X p s m args meth c own cc nL ret0 G) (hX : va_X b L xs s H0) (hbA : ¬ qz_A G b) {i : Int32} (d : decode cc pc = .ok (.iaload, 1)) {α : Type} {r : α} {fb : Option α} {dc : Decidable (i < 0 ∨ L ≤ i.toNatClampNeg)} (h : @ite (Option α) (i < 0 ∨ L ≤ i.toNatClampNeg) dc none fb = some r) (kk : fb = some r → qz_W p l e R s m args below meth c cells slots Q G H0 nL N (pc + 1) lv (.int (xs i.toNatClampNeg) :: st)) : qz_W p l e R s m args below meth c cells slots Q G H0 nL N pc lv (.int i :: .ref b :: st) := by
  intro H locs ls hP hS hl
  have hin : ¬ (i < 0 ∨ L ≤ i.toNatClampNeg) := fun z => by rw [if_pos z] at h; cases h
  rw [if_neg hin] at h
  obtain ⟨scr, h1, h2, h3, h4, h5⟩ := hX
  have hlt : i.toNatClampNeg < L := Nat.not_le.mp fun q => hin (Or.inr q)
  exact W.iald (v := .int (xs i.toNatClampNeg)) X.1 X.2.1 (by rw [hS.2.1 b hbA]; exact h1) h2 h3 (by rw [h4]; exact hin) (h5 _ hlt) rfl rfl d (kk h H locs ls hP hS hl)
theorem qz_lawret (X : qz_X p s m #[Value.ref b] meth c own code nL ret G) (hA : ∀ a, qz_A G a → s.heap.size ≤ a) (hcs : cells ≤ 600000 ∧ slots ≤ 7302250) {v : Int32} {r : Int32 × qz_N} (hr1 : r.1 = 1) (h : some (v, N) = some r) (d : decode code pc = .ok (.ireturn, 1)) : qz_W p l e room_1 s m #[Value.ref b] below meth c cells slots (lw_Z below #[Value.ref b] s) G H0 nL N pc lv [.int v] := by
  intro H locs ls hP hS hl
  cases h
  have hv : v = 1 := hr1
  subst hv
  refine va_forget (fun q hq => hA _ (hS.2.2 q hq)) ?_
  refine W.widen (k := 600000) (n := 7302250) hcs.1 hcs.2 ?_
  exact lw_ret X.1 X.2.1 X.2.2.2.2.2.2.2.2 X.2.2.2.2.2.2.2.1 d
end QZL
