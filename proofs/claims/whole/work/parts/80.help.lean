-- what a class method leaves alone (KM: the reference's numbers), what a method of the reference leaves alone (KC)
def KM (N N1 : qz_N) : Prop := ∀ c i k, (c = 7 ∨ 22 ≤ c) → qz_gi N1 c i k = qz_gi N c i k ∧ qz_gl N1 c i k = qz_gl N c i k
def KC (N N1 : qz_N) : Prop := ∀ c i k, ¬ (c = 7 ∨ 22 ≤ c) → qz_gi N1 c i k = qz_gi N c i k ∧ qz_gl N1 c i k = qz_gl N c i k
theorem KM.rf {N : qz_N} : KM N N := fun _ _ _ _ => ⟨rfl, rfl⟩
theorem KC.rf {N : qz_N} : KC N N := fun _ _ _ _ => ⟨rfl, rfl⟩
theorem KM.tr {N N1 N2 : qz_N} (h : KM N N1) (g : KM N1 N2) : KM N N2 := fun c i k hc => ⟨(g c i k hc).1.trans (h c i k hc).1, (g c i k hc).2.trans (h c i k hc).2⟩
theorem KC.tr {N N1 N2 : qz_N} (h : KC N N1) (g : KC N1 N2) : KC N N2 := fun c i k hc => ⟨(g c i k hc).1.trans (h c i k hc).1, (g c i k hc).2.trans (h c i k hc).2⟩
theorem KM.sl {N : qz_N} {c i k : Nat} {v : Int64} (hc : ¬ (c = 7 ∨ 22 ≤ c)) : KM N (qz_sl N c i k v) := fun c' i' k' h => ⟨rfl, by rw [qz_gl_sl, if_neg]; rintro ⟨rfl, -, -⟩; exact hc h⟩
theorem KM.si {N : qz_N} {c i k : Nat} {v : Int32} (hc : ¬ (c = 7 ∨ 22 ≤ c)) : KM N (qz_si N c i k v) := fun c' i' k' h => ⟨by rw [qz_gi_si, if_neg]; rintro ⟨rfl, -, -⟩; exact hc h, rfl⟩
theorem KC.sl {N : qz_N} {c i k : Nat} {v : Int64} (hc : c = 7 ∨ 22 ≤ c) : KC N (qz_sl N c i k v) := fun c' i' k' h => ⟨rfl, by rw [qz_gl_sl, if_neg]; rintro ⟨rfl, -, -⟩; exact h hc⟩
theorem KC.si {N : qz_N} {c i k : Nat} {v : Int32} (hc : c = 7 ∨ 22 ≤ c) : KC N (qz_si N c i k v) := fun c' i' k' h => ⟨by rw [qz_gi_si, if_neg]; rintro ⟨rfl, -, -⟩; exact h hc, rfl⟩
theorem Sc.KC {N N1 : qz_N} (h : Sc N N1) : KC N N1 := fun c i k hc => ⟨h.1 c i k, h.2 c i k (by omega)⟩
theorem pCL {f i j : Nat} (h : dCL f i j = true) : ¬ ((lCL f i j).1 = 7 ∨ 22 ≤ (lCL f i j).1) := by
  unfold dCL at h
  split at h <;> first | (cases h; done) | (simp [lCL]; done)
theorem pCI {f i j : Nat} (h : dCI f i j = true) : ¬ ((lCI f i j).1 = 7 ∨ 22 ≤ (lCI f i j).1) := by
  unfold dCI at h
  split at h <;> first | (cases h; done) | (simp [lCI]; done)
theorem pML {f i j : Nat} (h : dML f i j = true) : ((lML f i j).1 = 7 ∨ 22 ≤ (lML f i j).1) ∧ ¬ ((lML f i j).1 = 52 ∨ (lML f i j).1 = 53 ∨ (lML f i j).1 = 54 ∨ (lML f i j).1 = 55 ∨ ((lML f i j).1 = 7 ∧ (lML f i j).2.2 = 41)) := by
  unfold dML at h
  split at h <;> first | (cases h; done) | (simp [lML]; done)
theorem pMI {f i j : Nat} (h : dMI f i j = true) : (lMI f i j).1 = 7 ∨ 22 ≤ (lMI f i j).1 := by
  unfold dMI at h
  split at h <;> first | (cases h; done) | (simp [lMI]; done)
theorem RC.keep {N N1 : qz_N} {S : St} (h : RC N S) (k : KC N N1) : RC N1 S := ⟨fun f i j hd => by rw [(k _ _ _ (pCL hd)).2]; exact h.1 f i j hd, fun f i j hd => by rw [(k _ _ _ (pCI hd)).1]; exact h.2 f i j hd⟩
theorem RM.keep {N N1 : qz_N} {S : St} (h : RM N S) (k : KM N N1) : RM N1 S := by
  obtain ⟨⟨h1, h2⟩, h3, h4, h5⟩ := h
  refine ⟨⟨fun f i j hd => by rw [(k _ _ _ (pML hd).1).2]; exact h1 f i j hd, fun f i j hd => by rw [(k _ _ _ (pMI hd)).1]; exact h2 f i j hd⟩, fun q hq => by rw [(k 32 0 q (by decide)).1]; exact h3 q hq, fun q hq => ?_, fun q hq => by rw [(k 39 0 q (by decide)).2]; exact h5 q hq⟩
  rw [(k 35 0 q (by decide)).1, (k 36 0 q (by decide)).1, (k 37 0 q (by decide)).2, (k 38 0 q (by decide)).2]
  exact h4 q hq
theorem RM.scr {N N1 : qz_N} {S : St} (h : RM N S) (k : Sc N N1) : RM N1 S := by
  obtain ⟨⟨h1, h2⟩, h3, h4, h5⟩ := h
  refine ⟨⟨fun f i j hd => by rw [k.2 _ _ _ (pML hd).2]; exact h1 f i j hd, fun f i j hd => by rw [k.1]; exact h2 f i j hd⟩, fun q hq => by rw [k.1]; exact h3 q hq, fun q hq => ?_, fun q hq => by rw [k.2 39 0 q (by omega)]; exact h5 q hq⟩
  rw [k.1, k.1, k.2 37 0 q (by omega), k.2 38 0 q (by omega)]
  exact h4 q hq
/-- a write of the reference into one of the plain fields (not the size of the BATCH, nor that of the latest one, nor an ORDER's, a MARK's) -/
theorem RM.setL {N : qz_N} {S : St} {f i j v : Nat} (h : RM N S) (hd : dML f i j = true) : RM (qz_sl N (lML f i j).1 (lML f i j).2.1 (lML f i j).2.2 (lN v)) (qz_u3 S f i j v) := by
  obtain ⟨ht, h3, h4, h5⟩ := h
  have hf : f ≠ 12 ∧ f ≠ 13 ∧ f ≠ 18 ∧ f ≠ 19 ∧ f ≠ 20 ∧ f ≠ 21 ∧ f ≠ 22 ∧ f ≠ 24 ∧ f ≠ 25 := by
    refine ⟨?_, ?_, ?_, ?_, ?_, ?_, ?_, ?_, ?_⟩ <;> (rintro rfl; cases hd)
  have hc : (lML f i j).1 ≠ 37 ∧ (lML f i j).1 ≠ 38 ∧ (lML f i j).1 ≠ 39 := by
    unfold dML at hd
    split at hd <;> first | (cases hd; done) | (simp [lML]; done)
  have e : ∀ f', f' ≠ f → ∀ i' j', qz_u3 S f i j v f' i' j' = S f' i' j' := fun f' hf' i' j' => by unfold qz_u3; rw [if_neg (fun z => hf' z.1)]
  refine ⟨ht.setL hd, fun q hq => ?_, fun q hq => ?_, fun q hq => ?_⟩
  · rw [qz_gi_sl, e 12 (by omega), e 13 (by omega)]; exact h3 q hq
  · rw [e 18 (by omega)] at hq
    rw [qz_gi_sl, qz_gi_sl, qz_gl_sl, qz_gl_sl, if_neg (by omega), if_neg (by omega), e 19 (by omega), e 20 (by omega), e 21 (by omega), e 22 (by omega)]; exact h4 q hq
  · rw [e 24 (by omega)] at hq
    rw [qz_gl_sl, if_neg (by omega), e 25 (by omega)]; exact h5 q hq
theorem RM.setI {N : qz_N} {S : St} {f i j v : Nat} (h : RM N S) (hd : dMI f i j = true) (hf : f ≠ 18 ∧ f ≠ 24) : RM (qz_si N (lMI f i j).1 (lMI f i j).2.1 (lMI f i j).2.2 (nI v)) (qz_u3 S f i j v) := by
  obtain ⟨ht, h3, h4, h5⟩ := h
  have hg : f ≠ 12 ∧ f ≠ 13 ∧ f ≠ 19 ∧ f ≠ 20 ∧ f ≠ 21 ∧ f ≠ 22 ∧ f ≠ 25 := by
    refine ⟨?_, ?_, ?_, ?_, ?_, ?_, ?_⟩ <;> (rintro rfl; cases hd)
  have hc : (lMI f i j).1 ≠ 32 ∧ (lMI f i j).1 ≠ 35 ∧ (lMI f i j).1 ≠ 36 := by
    unfold dMI at hd
    split at hd <;> first | (cases hd; done) | (simp [lMI]; done)
  have e : ∀ f', f' ≠ f → ∀ i' j', qz_u3 S f i j v f' i' j' = S f' i' j' := fun f' hf' i' j' => by unfold qz_u3; rw [if_neg (fun z => hf' z.1)]
  refine ⟨ht.setI hd, fun q hq => ?_, fun q hq => ?_, fun q hq => ?_⟩
  · rw [qz_gi_si, if_neg (by omega), e 12 (by omega), e 13 (by omega)]; exact h3 q hq
  · rw [e 18 (by omega)] at hq
    rw [qz_gi_si, qz_gi_si, qz_gl_si, qz_gl_si, if_neg (by omega), if_neg (by omega), e 19 (by omega), e 20 (by omega), e 21 (by omega), e 22 (by omega)]; exact h4 q hq
  · rw [e 24 (by omega)] at hq
    rw [qz_gl_si, e 25 (by omega)]; exact h5 q hq
