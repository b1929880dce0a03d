abbrev bf (S : St) (j i : Nat) : Prop := S 20 j 0 = S 20 i 0 ∧ (S 22 j 0 = S 22 i 0 ∧ j < i ∨ S 22 j 0 ≠ S 22 i 0 ∧ (S 20 i 0 = 0 ∧ S 22 j 0 < S 22 i 0 ∨ S 20 i 0 ≠ 0 ∧ S 22 i 0 < S 22 j 0))
def bfS (S : St) (i : Nat) : Nat := sg (fun j => if bf S j i then S 21 j 0 else 0) (S 18 0 0)
def prt (S : St) (Q i : Nat) : Nat := min (S 21 i 0) (Q - bfS S i)
theorem bf_as {S : St} {i j : Nat} (h : bf S j i) (g : bf S i j) : False := by
  obtain ⟨a1, a2⟩ := h
  obtain ⟨b1, b2⟩ := g
  omega
theorem bf_ir {S : St} {i : Nat} (h : bf S i i) : False := bf_as h h
theorem bf_tot {S : St} {i j : Nat} (h : S 20 j 0 = S 20 i 0) : bf S j i ∨ j = i ∨ bf S i j := by
  unfold bf
  omega
theorem bf_el {S : St} {s p i j : Nat} (h : bf S j i) (g : el S s p i) : el S s p j := by
  obtain ⟨a1, a2⟩ := h
  obtain ⟨b1, b2⟩ := g
  unfold el
  omega
def DI (S : St) (s P Q left : Nat) (t g : Nat → Nat) : Prop := (∀ i, i < S 18 0 0 → t i ≤ 1) ∧ (∀ i, i < S 18 0 0 → S 20 i 0 = s → t i = 1 → el S s P i ∧ g i = prt S Q i ∧ ∀ j, j < S 18 0 0 → bf S j i → t j = 1) ∧ (∀ i, i < S 18 0 0 → S 20 i 0 = s → t i = 0 → g i = 0) ∧ left + sg (fun i => if S 20 i 0 = s ∧ t i = 1 then g i else 0) (S 18 0 0) = Q ∧ left = Q - sg (fun i => if S 20 i 0 = s ∧ t i = 1 then S 21 i 0 else 0) (S 18 0 0)
theorem DI_bf {S : St} {s P Q left x : Nat} {t g : Nat → Nat} (h : DI S s P Q left t g) (hx : x < S 18 0 0) (ex : el S s P x) (tx : t x = 0) (hm : ∀ j, j < S 18 0 0 → el S s P j → t j = 0 → j = x ∨ bf S x j) : bfS S x = sg (fun i => if S 20 i 0 = s ∧ t i = 1 then S 21 i 0 else 0) (S 18 0 0) ∧ ∀ j, j < S 18 0 0 → bf S j x → t j = 1 := by
  obtain ⟨h1, h2, h3, h4, h5⟩ := h
  have key : ∀ j, j < S 18 0 0 → bf S j x → t j = 1 := by
    intro j hj hb
    by_cases c : t j = 0
    · exfalso
      rcases hm j hj (bf_el hb ex) c with e | e
      · exact bf_ir (e ▸ hb)
      · exact bf_as hb e
    · have := h1 j hj; omega
  refine ⟨sg_congr (fun j hj => ?_), key⟩
  show (if bf S j x then S 21 j 0 else 0) = (if S 20 j 0 = s ∧ t j = 1 then S 21 j 0 else 0)
  by_cases c : bf S j x
  · rw [if_pos c, if_pos ⟨by rw [c.1]; exact ex.1, key j hj c⟩]
  · rw [if_neg c]
    by_cases d : S 20 j 0 = s ∧ t j = 1
    · exfalso
      have tj := h2 j hj d.1 d.2
      rcases bf_tot (S := S) (i := x) (j := j) (by rw [d.1]; exact ex.1.symm) with e | e | e
      · exact c e
      · rw [e] at d; omega
      · have := tj.2.2 x hx e; omega
    · rw [if_neg d]
theorem DI_step {S : St} {s P Q left x : Nat} {t g : Nat → Nat} (h : DI S s P Q left t g) (hx : x < S 18 0 0) (ex : el S s P x) (tx : t x = 0) (hm : ∀ j, j < S 18 0 0 → el S s P j → t j = 0 → j = x ∨ bf S x j) : DI S s P Q (left - min (S 21 x 0) left) (fun i => if i = x then 1 else t i) (fun i => if i = x then min (S 21 x 0) left else g i) := by
  obtain ⟨hb, key⟩ := DI_bf h hx ex tx hm
  obtain ⟨h1, h2, h3, h4, h5⟩ := h
  have ep : prt S Q x = min (S 21 x 0) left := by
    unfold prt; rw [hb, ← h5]
  have u1 : sg (fun i => if S 20 i 0 = s ∧ (if i = x then 1 else t i) = 1 then (if i = x then min (S 21 x 0) left else g i) else 0) (S 18 0 0) + (if S 20 x 0 = s ∧ t x = 1 then g x else 0) = sg (fun i => if S 20 i 0 = s ∧ t i = 1 then g i else 0) (S 18 0 0) + (if S 20 x 0 = s ∧ (if x = x then 1 else t x) = 1 then (if x = x then min (S 21 x 0) left else g x) else 0) := sg_upd (f := fun i => if S 20 i 0 = s ∧ t i = 1 then g i else 0) (g := fun i => if S 20 i 0 = s ∧ (if i = x then 1 else t i) = 1 then (if i = x then min (S 21 x 0) left else g i) else 0) hx (fun i _ hi => by
    show (if S 20 i 0 = s ∧ (if i = x then 1 else t i) = 1 then (if i = x then min (S 21 x 0) left else g i) else 0) = _
    rw [if_neg hi, if_neg hi])
  have u2 : sg (fun i => if S 20 i 0 = s ∧ (if i = x then 1 else t i) = 1 then S 21 i 0 else 0) (S 18 0 0) + (if S 20 x 0 = s ∧ t x = 1 then S 21 x 0 else 0) = sg (fun i => if S 20 i 0 = s ∧ t i = 1 then S 21 i 0 else 0) (S 18 0 0) + (if S 20 x 0 = s ∧ (if x = x then 1 else t x) = 1 then S 21 x 0 else 0) := sg_upd (f := fun i => if S 20 i 0 = s ∧ t i = 1 then S 21 i 0 else 0) (g := fun i => if S 20 i 0 = s ∧ (if i = x then 1 else t i) = 1 then S 21 i 0 else 0) hx (fun i _ hi => by
    show (if S 20 i 0 = s ∧ (if i = x then 1 else t i) = 1 then S 21 i 0 else 0) = _
    rw [if_neg hi])
  have f0 : (if S 20 x 0 = s ∧ t x = 1 then g x else 0) = 0 := if_neg (by omega)
  have f1 : (if S 20 x 0 = s ∧ t x = 1 then S 21 x 0 else 0) = 0 := if_neg (by omega)
  have g0 : (if S 20 x 0 = s ∧ (if x = x then 1 else t x) = 1 then (if x = x then min (S 21 x 0) left else g x) else 0) = min (S 21 x 0) left := by
    rw [if_pos rfl, if_pos ⟨ex.1, rfl⟩, if_pos rfl]
  have g1 : (if S 20 x 0 = s ∧ (if x = x then 1 else t x) = 1 then S 21 x 0 else 0) = S 21 x 0 := by
    rw [if_pos rfl, if_pos ⟨ex.1, rfl⟩]
  rw [f0, g0] at u1
  rw [f1, g1] at u2
  refine ⟨fun i hi => ?_, fun i hi hs ht => ?_, fun i hi hs ht => ?_, ?_, ?_⟩
  · have := h1 i hi
    show (if i = x then 1 else t i) ≤ 1
    split <;> omega
  · have ht : (if i = x then 1 else t i) = 1 := ht
    show el S s P i ∧ (if i = x then min (S 21 x 0) left else g i) = prt S Q i ∧ ∀ j, j < S 18 0 0 → bf S j i → (if j = x then 1 else t j) = 1
    by_cases c : i = x
    · subst c
      refine ⟨ex, by rw [if_pos rfl, ep], fun j hj hb => ?_⟩
      have := key j hj hb
      split <;> omega
    · rw [if_neg c] at ht ⊢
      obtain ⟨a1, a2, a3⟩ := h2 i hi hs ht
      refine ⟨a1, a2, fun j hj hb => ?_⟩
      have := a3 j hj hb
      split <;> omega
  · have ht : (if i = x then 1 else t i) = 0 := ht
    show (if i = x then min (S 21 x 0) left else g i) = 0
    by_cases c : i = x
    · rw [if_pos c] at ht; omega
    · rw [if_neg c] at ht ⊢
      exact h3 i hi hs ht
  · show left - min (S 21 x 0) left + sg (fun i => if S 20 i 0 = s ∧ (if i = x then 1 else t i) = 1 then (if i = x then min (S 21 x 0) left else g i) else 0) (S 18 0 0) = Q
    omega
  · show left - min (S 21 x 0) left = Q - sg (fun i => if S 20 i 0 = s ∧ (if i = x then 1 else t i) = 1 then S 21 i 0 else 0) (S 18 0 0)
    omega
theorem DI_end {S : St} {s P Q left : Nat} {t g : Nat → Nat} (h : DI S s P Q left t g) (hQ : Q ≤ aA S s P) (he : left = 0 ∨ ∀ j, j < S 18 0 0 → el S s P j → t j = 1) : (∀ i, i < S 18 0 0 → S 20 i 0 = s → g i = prt S Q i) ∧ sg (fun i => if S 20 i 0 = s then prt S Q i else 0) (S 18 0 0) = Q ∧ ∀ i, i < S 18 0 0 → S 20 i 0 = s → prt S Q i ≠ 0 → el S s P i := by
  obtain ⟨h1, h2, h3, h4, h5⟩ := h
  have l0 : left = 0 := by
    rcases he with e | e
    · exact e
    · have : aA S s P ≤ sg (fun i => if S 20 i 0 = s ∧ t i = 1 then S 21 i 0 else 0) (S 18 0 0) := sg_mono (fun i hi => by
        show (if el S s P i then S 21 i 0 else 0) ≤ (if S 20 i 0 = s ∧ t i = 1 then S 21 i 0 else 0)
        by_cases c : el S s P i
        · rw [if_pos c, if_pos ⟨c.1, e i hi c⟩]; exact Nat.le_refl _
        · rw [if_neg c]; exact Nat.zero_le _)
      omega
  have key : ∀ i, i < S 18 0 0 → S 20 i 0 = s → g i = prt S Q i := by
    intro i hi hs
    by_cases c : t i = 1
    · exact (h2 i hi hs c).2.1
    · have t0 : t i = 0 := by have := h1 i hi; omega
      rw [h3 i hi hs t0]
      have : sg (fun i => if S 20 i 0 = s ∧ t i = 1 then S 21 i 0 else 0) (S 18 0 0) ≤ bfS S i := sg_mono (fun j hj => by
        show (if S 20 j 0 = s ∧ t j = 1 then S 21 j 0 else 0) ≤ (if bf S j i then S 21 j 0 else 0)
        by_cases d : S 20 j 0 = s ∧ t j = 1
        · have tj := h2 j hj d.1 d.2
          rw [if_pos d, if_pos]
          · exact Nat.le_refl _
          · rcases bf_tot (S := S) (i := i) (j := j) (by rw [d.1, hs]) with e | e | e
            · exact e
            · rw [e] at d; omega
            · have := tj.2.2 i hi e; omega
        · rw [if_neg d]; exact Nat.zero_le _)
      unfold prt
      omega
  refine ⟨key, ?_, fun i hi hs hne => ?_⟩
  rotate_left
  · by_cases c : t i = 1
    · exact (h2 i hi hs c).1
    · have t0 : t i = 0 := by have := h1 i hi; omega
      have := h3 i hi hs t0
      have := key i hi hs
      omega
  have : sg (fun i => if S 20 i 0 = s then prt S Q i else 0) (S 18 0 0) = sg (fun i => if S 20 i 0 = s ∧ t i = 1 then g i else 0) (S 18 0 0) := sg_congr (fun i hi => by
    show (if S 20 i 0 = s then prt S Q i else 0) = (if S 20 i 0 = s ∧ t i = 1 then g i else 0)
    by_cases c : S 20 i 0 = s
    · rw [if_pos c, ← key i hi c]
      by_cases d : t i = 1
      · rw [if_pos ⟨c, d⟩]
      · rw [if_neg (fun z => d z.2)]
        exact h3 i hi c (by have := h1 i hi; omega)
    · rw [if_neg c, if_neg (fun z => c z.1)])
  omega
def s25 (S : St) (g : Nat → Nat) : St := fun f i j => if f = 25 ∧ j = 0 then g i else S f i j
theorem s25_f {S : St} {g : Nat → Nat} {f : Nat} (h : f ≠ 25) : s25 S g f = S f := by
  funext i j; unfold s25; rw [if_neg (fun z => h z.1)]
theorem s25_u {S : St} {g : Nat → Nat} {i v : Nat} : qz_u3 (s25 S g) 25 i 0 v = s25 S (fun k => if k = i then v else g k) := by
  funext f a b
  unfold qz_u3 s25
  by_cases c : f = 25 ∧ b = 0
  · by_cases d : a = i
    · rw [if_pos ⟨c.1, d, c.2⟩, if_pos c]
      show v = if a = i then v else g a
      rw [if_pos d]
    · rw [if_neg (fun z => d z.2.1), if_pos c, if_pos c]
      show g a = if a = i then v else g a
      rw [if_neg d]
  · rw [if_neg (fun z => c ⟨z.1, z.2.2⟩), if_neg c, if_neg c]
theorem RM.w39 {N : qz_N} {S : St} {g : Nat → Nat} {i v : Nat} (h : RM N (s25 S g)) : RM (qz_sl N 39 0 i (lN v)) (s25 S (fun k => if k = i then v else g k)) := by
  obtain ⟨⟨h1, h2⟩, h3, h4, h5⟩ := h
  have e : ∀ f, f ≠ 25 → s25 S (fun k => if k = i then v else g k) f = s25 S g f := fun f hf => by rw [s25_f hf, s25_f hf]
  refine ⟨⟨fun f a b hd => ?_, fun f a b hd => ?_⟩, fun q hq => ?_, fun q hq => ?_, fun q hq => ?_⟩
  · have hl : (lML f a b).1 ≠ 39 := by
      unfold dML at hd
      split at hd <;> first | (cases hd; done) | (simp [lML]; done)
    rw [qz_gl_sl, if_neg (fun z => hl z.1), e f (by rintro rfl; cases hd)]; exact h1 f a b hd
  · rw [qz_gi_sl, e f (by rintro rfl; cases hd)]; exact h2 f a b hd
  · rw [qz_gi_sl, e 12 (by decide), e 13 (by decide)]; exact h3 q hq
  · rw [e 18 (by decide)] at hq
    rw [qz_gi_sl, qz_gi_sl, qz_gl_sl, qz_gl_sl, if_neg (by omega), if_neg (by omega), e 19 (by decide), e 20 (by decide), e 21 (by decide), e 22 (by decide)]; exact h4 q hq
  · rw [e 24 (by decide)] at hq
    have h5 := h5 q hq
    rw [show s25 S g 25 q 0 = g q from if_pos ⟨rfl, rfl⟩] at h5
    rw [show s25 S (fun k => if k = i then v else g k) 25 q 0 = (if q = i then v else g q) from if_pos ⟨rfl, rfl⟩, qz_gl_sl]
    by_cases c : q = i
    · rw [if_pos ⟨rfl, rfl, c⟩, if_pos c]
    · rw [if_neg (fun z => c z.2.2), if_neg c]; exact h5
theorem RM.w40 {N : qz_N} {S : St} {i : Nat} {v : Int32} (h : RM N S) : RM (qz_si N 40 0 i v) S := by
  obtain ⟨⟨h1, h2⟩, h3, h4, h5⟩ := h
  refine ⟨⟨fun f a b hd => ?_, fun f a b hd => ?_⟩, fun q hq => ?_, fun q hq => ?_, fun q hq => ?_⟩
  · rw [qz_gl_si]; exact h1 f a b hd
  · have hl : (lMI f a b).1 ≠ 40 := by
      unfold dMI at hd
      split at hd <;> first | (cases hd; done) | (simp [lMI]; done)
    rw [qz_gi_si, if_neg (fun z => hl z.1)]; exact h2 f a b hd
  · rw [qz_gi_si, if_neg (by omega)]; exact h3 q hq
  · rw [qz_gi_si, qz_gi_si, qz_gl_si, qz_gl_si, if_neg (by omega), if_neg (by omega)]; exact h4 q hq
  · rw [qz_gl_si]; exact h5 q hq
theorem RM.w24 {N : qz_N} {S : St} {n : Nat} (h : RM N S) : RM (qz_si N 7 0 23 (nI n)) (s25 (qz_u3 S 24 0 0 n) (fun i => uN (qz_gl N 39 0 i))) := by
  obtain ⟨ht, h3, h4, h5⟩ := h
  have t1 := TM.setI (f := 24) (i := 0) (j := 0) (v := n) ht rfl
  refine ⟨⟨fun f a b hd => ?_, fun f a b hd => ?_⟩, fun q hq => ?_, fun q hq => ?_, fun q hq => ?_⟩
  · rw [s25_f (by rintro rfl; cases hd)]; exact t1.1 f a b hd
  · rw [s25_f (by rintro rfl; cases hd)]; exact t1.2 f a b hd
  · rw [s25_f (by decide), s25_f (by decide), u3_f (by decide), u3_f (by decide), qz_gi_si, if_neg (by omega)]; exact h3 q hq
  · rw [s25_f (by decide), u3_f (by decide)] at hq
    rw [s25_f (by decide), s25_f (by decide), s25_f (by decide), s25_f (by decide), u3_f (by decide), u3_f (by decide), u3_f (by decide), u3_f (by decide), qz_gi_si, qz_gi_si, qz_gl_si, qz_gl_si, if_neg (by omega), if_neg (by omega)]; exact h4 q hq
  · rw [qz_gl_si, show s25 (qz_u3 S 24 0 0 n) (fun i => uN (qz_gl N 39 0 i)) 25 q 0 = uN (qz_gl N 39 0 q) from if_pos ⟨rfl, rfl⟩, un_eq]
theorem RM.w18 {N : qz_N} {S : St} (h : RM N S) : RM (qz_si N 7 0 17 (nI 0)) (qz_u3 S 18 0 0 0) := by
  obtain ⟨ht, h3, h4, h5⟩ := h
  have t1 := TM.setI (f := 18) (i := 0) (j := 0) (v := 0) ht rfl
  refine ⟨t1, fun q hq => ?_, fun q hq => ?_, fun q hq => ?_⟩
  · rw [u3_f (by decide), u3_f (by decide), qz_gi_si, if_neg (by omega)]; exact h3 q hq
  · rw [u3_s] at hq; omega
  · rw [u3_f (by decide)] at hq
    rw [qz_gl_si, u3_f (by decide)]; exact h5 q hq
theorem RM.c25 {N : qz_N} {S : St} {g g' : Nat → Nat} (h : RM N (s25 S g)) (hg : ∀ i, i < S 24 0 0 → g i = g' i) : RM N (s25 S g') := by
  obtain ⟨⟨h1, h2⟩, h3, h4, h5⟩ := h
  have e : ∀ f, f ≠ 25 → s25 S g' f = s25 S g f := fun f hf => by rw [s25_f hf, s25_f hf]
  refine ⟨⟨fun f a b hd => ?_, fun f a b hd => ?_⟩, fun q hq => ?_, fun q hq => ?_, fun q hq => ?_⟩
  · rw [e f (by rintro rfl; cases hd)]; exact h1 f a b hd
  · rw [e f (by rintro rfl; cases hd)]; exact h2 f a b hd
  · rw [e 12 (by decide), e 13 (by decide)]; exact h3 q hq
  · rw [e 18 (by decide)] at hq
    rw [e 19 (by decide), e 20 (by decide), e 21 (by decide), e 22 (by decide)]; exact h4 q hq
  · rw [e 24 (by decide)] at hq
    have h5 := h5 q hq
    rw [s25_f (by decide)] at hq
    rw [show s25 S g 25 q 0 = g q from if_pos ⟨rfl, rfl⟩, hg q hq] at h5
    rw [show s25 S g' 25 q 0 = g' q from if_pos ⟨rfl, rfl⟩]
    exact h5
def ORD (N : qz_N) (S : St) : Prop := qz_gi N 7 0 17 = nI (S 18 0 0) ∧ ∀ i, i < S 18 0 0 → qz_gi N 35 0 i = nI (S 19 i 0) ∧ qz_gi N 36 0 i = nI (S 20 i 0) ∧ qz_gl N 37 0 i = lN (S 21 i 0) ∧ qz_gl N 38 0 i = lN (S 22 i 0)
theorem RM.ords {N : qz_N} {S S1 : St} {g : Nat → Nat} (h : RM N (s25 S1 g)) (hS : ∀ f, 18 ≤ f → f ≤ 22 → S1 f = S f) : ORD N S := by
  have e : ∀ f, 18 ≤ f → f ≤ 22 → s25 S1 g f = S f := fun f a b => by rw [s25_f (by omega), hS f a b]
  have h17 := rM18 h
  have h4 := h.2.2.1
  rw [e 18 (by decide) (by decide)] at h17 h4
  rw [e 19 (by decide) (by decide), e 20 (by decide) (by decide), e 21 (by decide) (by decide), e 22 (by decide) (by decide)] at h4
  exact ⟨h17, h4⟩
theorem M_body {N : qz_N} {S : St} {c s P i : Nat} {t : Nat → Nat} {left : Int64} {x9 : Int32} (ok : Ok c S) (ho : ORD N S) (ht : ∀ i, i < S 18 0 0 → qz_gi N 40 0 i = nI (t i)) (t1 : ∀ i, i < S 18 0 0 → t i ≤ 1) (hs : s ≤ 1) (hP : P ≤ 1000000) (hi : i < S 18 0 0) (k7 : qz_N × Int32 × Int64 × Int64 × Int32 → Option (Unit × qz_N)) (k : qz_N × Int32 × Int64 × Int64 × Int32 × Int32 → Option (Unit × qz_N)) : fM_deal_25b 0 k7 k N (nI s) (lN P) left x9 (nI i) = if el S s P i ∧ t i = 0 then fM_deal_91 0 k N (nI s) (lN P) left x9 (nI i) 1 else k (N, nI s, lN P, left, x9, nI (i + 1)) := by
  obtain ⟨-, -, -, h40, -, hO⟩ := ok.2.2.2.1
  obtain ⟨o1, o2, o3, o4, o5, o6⟩ := hO i hi
  obtain ⟨h17, ho⟩ := ho
  obtain ⟨m1, m2, m3, m4⟩ := ho i hi
  have mt := ht i hi
  have ti := t1 i hi
  have hi' : i < 40 := by omega
  by_cases c1 : S 20 i 0 = s
  · by_cases c2 : t i = 0
    · by_cases c0 : s = 0
      · by_cases c3 : P < S 22 i 0
        · rw [if_neg (by omega)]
          simp (disch := omega) only [fM_deal_25b, h17, ix_2m, ix_6m, ix_4m, ix_m4, ix_1s, ix_s, ix_s2, ix_s9, ix_s7, ix_s5, ix_s1, nI_add, nI_p1, ix_n, ix_z, ix_1, ix_eq, ix_le, ix_lt, ix_le0, nI_tc, n_leT, n_leF, n_ltT, n_ltF, n_eqT, n_eqF, or_self, or_false, false_or, ↓reduceIte, ↓qz_letL, ↓qz_letI, qz_oc_s, qz_oc_n, Option.bind_some, ne10, not_false_eq_true, l_x, m2, mt, m4, l_lt, fM_deal_90, fM_deal_91, fM_deal_150]
        · rw [if_pos (by omega)]
          simp (disch := omega) only [fM_deal_25b, h17, ix_2m, ix_6m, ix_4m, ix_m4, ix_1s, ix_s, ix_s2, ix_s9, ix_s7, ix_s5, ix_s1, nI_add, nI_p1, ix_n, ix_z, ix_1, ix_eq, ix_le, ix_lt, ix_le0, nI_tc, n_leT, n_leF, n_ltT, n_ltF, n_eqT, n_eqF, or_self, or_false, false_or, ↓reduceIte, ↓qz_letL, ↓qz_letI, qz_oc_s, qz_oc_n, Option.bind_some, ne10, not_false_eq_true, l_x, m2, mt, m4, l_lt, fM_deal_86]
      · by_cases c3 : S 22 i 0 < P
        · rw [if_neg (by omega)]
          simp (disch := omega) only [fM_deal_25b, h17, ix_2m, ix_6m, ix_4m, ix_m4, ix_1s, ix_s, ix_s2, ix_s9, ix_s7, ix_s5, ix_s1, nI_add, nI_p1, ix_n, ix_z, ix_1, ix_eq, ix_le, ix_lt, ix_le0, nI_tc, n_leT, n_leF, n_ltT, n_ltF, n_eqT, n_eqF, or_self, or_false, false_or, ↓reduceIte, ↓qz_letL, ↓qz_letI, qz_oc_s, qz_oc_n, Option.bind_some, ne10, not_false_eq_true, l_x, m2, mt, m4, l_lt, fM_deal_90, fM_deal_91, fM_deal_150]
        · rw [if_pos (by omega)]
          simp (disch := omega) only [fM_deal_25b, h17, ix_2m, ix_6m, ix_4m, ix_m4, ix_1s, ix_s, ix_s2, ix_s9, ix_s7, ix_s5, ix_s1, nI_add, nI_p1, ix_n, ix_z, ix_1, ix_eq, ix_le, ix_lt, ix_le0, nI_tc, n_leT, n_leF, n_ltT, n_ltF, n_eqT, n_eqF, or_self, or_false, false_or, ↓reduceIte, ↓qz_letL, ↓qz_letI, qz_oc_s, qz_oc_n, Option.bind_some, ne10, not_false_eq_true, l_x, m2, mt, m4, l_lt, fM_deal_86]
    · rw [if_neg (by omega)]
      simp (disch := omega) only [fM_deal_25b, h17, ix_2m, ix_6m, ix_4m, ix_m4, ix_1s, ix_s, ix_s2, ix_s9, ix_s7, ix_s5, ix_s1, nI_add, nI_p1, ix_n, ix_z, ix_1, ix_eq, ix_le, ix_lt, ix_le0, nI_tc, n_leT, n_leF, n_ltT, n_ltF, n_eqT, n_eqF, or_self, or_false, false_or, ↓reduceIte, ↓qz_letL, ↓qz_letI, qz_oc_s, qz_oc_n, Option.bind_some, ne10, not_false_eq_true, l_x, m2, mt, fM_deal_90, fM_deal_91, fM_deal_150]
  · rw [if_neg (by omega)]
    simp (disch := omega) only [fM_deal_25b, h17, ix_2m, ix_6m, ix_4m, ix_m4, ix_1s, ix_s, ix_s2, ix_s9, ix_s7, ix_s5, ix_s1, nI_add, nI_p1, ix_n, ix_z, ix_1, ix_eq, ix_le, ix_lt, ix_le0, nI_tc, n_leT, n_leF, n_ltT, n_ltF, n_eqT, n_eqF, or_self, or_false, false_or, ↓reduceIte, ↓qz_letL, ↓qz_letI, qz_oc_s, qz_oc_n, Option.bind_some, ne10, not_false_eq_true, l_x, m2, fM_deal_90, fM_deal_91, fM_deal_150]
theorem M_scan {N : qz_N} {S : St} {c s P : Nat} {t : Nat → Nat} {left : Int64} (ok : Ok c S) (ho : ORD N S) (ht : ∀ i, i < S 18 0 0 → qz_gi N 40 0 i = nI (t i)) (t1 : ∀ i, i < S 18 0 0 → t i ≤ 1) (hs : s ≤ 1) (hP : P ≤ 1000000) {k7 : qz_N × Int32 × Int64 × Int64 × Int32 → Option (Unit × qz_N)} {Pd : Option (Unit × qz_N) → Prop} (g0 : (∀ j, j < S 18 0 0 → el S s P j → t j = 1) → Pd (k7 (N, nI s, lN P, left, 0))) (g1 : ∀ x, x < S 18 0 0 → el S s P x → t x = 0 → (∀ j, j < S 18 0 0 → el S s P j → t j = 0 → j = x ∨ bf S x j) → Pd (fM_deal_166 0 k7 N (nI s) (lN P) left (nI x) 1)) : Pd (fM_deal_25 0 k7 1100 (N, nI s, lN P, left, -1, 0)) := by
  obtain ⟨-, -, -, h40, -, hO⟩ := ok.2.2.2.1
  unfold fM_deal_25
  refine lpP (P := Pd) (fun i a => (a = (N, nI s, lN P, left, -1, nI i) ∧ ∀ j, j < i → el S s P j → t j = 1) ∨ ∃ x, x < i ∧ el S s P x ∧ t x = 0 ∧ (∀ j, j < i → el S s P j → t j = 0 → j = x ∨ bf S x j) ∧ a = (N, nI s, lN P, left, nI x, nI i)) (S 18 0 0) ?_ ?_ (S 18 0 0) 0 1100 _ (by omega) (by omega) (Or.inl ⟨rfl, fun j hj => by omega⟩)
  · intro i a hi hI k hk
    have ti := t1 i hi
    obtain ⟨o1, o2, o3, o4, o5, o6⟩ := hO i hi
    obtain ⟨m1, m2, m3, m4⟩ := ho.2 i hi
    rcases hI with ⟨rfl, h0⟩ | ⟨x, hx, ex, tx, hm, rfl⟩
    · show Pd (fM_deal_25b 0 k7 k N (nI s) (lN P) left (-1) (nI i))
      rw [M_body ok ho ht t1 hs hP hi]
      by_cases ce : el S s P i ∧ t i = 0
      · rw [if_pos ce]
        unfold fM_deal_91
        rw [if_neg ne10, if_pos (by decide)]
        unfold fM_deal_146 fM_deal_150
        rw [qz_let_eq, nI_p1]
        refine hk _ (Or.inr ⟨i, by omega, ce.1, ce.2, fun j hj ej tj => ?_, rfl⟩)
        by_cases c1 : j = i
        · exact Or.inl c1
        · have := h0 j (by omega) ej; omega
      · rw [if_neg ce]
        refine hk _ (Or.inl ⟨rfl, fun j hj ej => ?_⟩)
        by_cases c1 : j = i
        · subst c1
          by_cases c2 : t j = 0
          · exact absurd ⟨ej, c2⟩ ce
          · omega
        · exact h0 j (by omega) ej
    · show Pd (fM_deal_25b 0 k7 k N (nI s) (lN P) left (nI x) (nI i))
      rw [M_body ok ho ht t1 hs hP hi]
      obtain ⟨p1, p2, p3, p4, p5, p6⟩ := hO x (by omega)
      obtain ⟨n1, n2, n3, n4⟩ := ho.2 x (by omega)
      by_cases ce : el S s P i ∧ t i = 0
      · rw [if_pos ce]
        have keep : bf S x i → Pd (k (N, nI s, lN P, left, nI x, nI (i + 1))) := by
          intro hb
          refine hk _ (Or.inr ⟨x, by omega, ex, tx, fun j hj ej tj => ?_, rfl⟩)
          by_cases c1 : j = i
          · rw [c1]; exact Or.inr hb
          · exact hm j (by omega) ej tj
        have take : (∀ j, j < i → el S s P j → t j = 0 → bf S i j) → Pd (k (N, nI s, lN P, left, nI i, nI (i + 1))) := by
          intro hb
          refine hk _ (Or.inr ⟨i, by omega, ce.1, ce.2, fun j hj ej tj => ?_, rfl⟩)
          by_cases c1 : j = i
          · exact Or.inl c1
          · exact Or.inr (hb j (by omega) ej tj)
        have es : S 20 x 0 = S 20 i 0 := by rw [ex.1, ce.1.1]
        have ix0 : ¬ (nI i < 0 ∨ 40 ≤ (nI i).toNatClampNeg) := nI_ok (n := 40) (by omega) (by decide)
        have ix1 : ¬ (nI x < 0 ∨ 40 ≤ (nI x).toNatClampNeg) := nI_ok (n := 40) (by omega) (by decide)
        unfold fM_deal_91 fM_deal_146 fM_deal_150
        rw [if_neg ne10, if_neg (nI_pos (by omega)), if_neg ix0, if_neg ix1, if_neg ix0, if_neg ix1, nI_tc (by omega), nI_tc (by omega), m4, n4, qz_let_eq, qz_let_eq, nI_p1, ifc (ix_z (by omega)), ifc (l_le (by omega) (by omega)), ifc (l_le (by omega) (by omega))]
        have tr : bf S i x → ∀ j, j < i → el S s P j → t j = 0 → bf S i j := by
          intro hb j hj ej tj
          rcases hm j hj ej tj with e | e
          · rw [e]; exact hb
          · obtain ⟨q1, q2⟩ := hb
            obtain ⟨r1, r2⟩ := e
            unfold bf
            omega
        by_cases c0 : s = 0
        · rw [if_pos c0]
          by_cases c1 : S 22 x 0 ≤ S 22 i 0
          · rw [if_pos c1]
            exact keep ⟨es, by have := ex.1; have := ce.1.1; omega⟩
          · rw [if_neg c1]
            exact take (tr ⟨es.symm, by have := ex.1; have := ce.1.1; omega⟩)
        · rw [if_neg c0]
          by_cases c1 : S 22 i 0 ≤ S 22 x 0
          · rw [if_pos c1]
            exact keep ⟨es, by have := ex.1; have := ce.1.1; omega⟩
          · rw [if_neg c1]
            exact take (tr ⟨es.symm, by have := ex.1; have := ce.1.1; omega⟩)
      · rw [if_neg ce]
        refine hk _ (Or.inr ⟨x, by omega, ex, tx, fun j hj ej tj => ?_, rfl⟩)
        by_cases c1 : j = i
        · subst c1
          exact absurd ⟨ej, tj⟩ ce
        · exact hm j (by omega) ej tj
  · intro a hI k
    rcases hI with ⟨rfl, h0⟩ | ⟨x, hx, ex, tx, hm, rfl⟩
    · show Pd (fM_deal_25b 0 k7 k N (nI s) (lN P) left (-1) (nI (S 18 0 0)))
      unfold fM_deal_25b
      rw [ho.1, if_pos (by rw [ix_le (by omega) (by omega)]; exact Nat.le_refl _), if_pos (by decide)]
      unfold fM_deal_166 fM_deal_212
      rw [if_pos rfl]
      exact g0 h0
    · show Pd (fM_deal_25b 0 k7 k N (nI s) (lN P) left (nI x) (nI (S 18 0 0)))
      unfold fM_deal_25b
      rw [ho.1, if_pos (by rw [ix_le (by omega) (by omega)]; exact Nat.le_refl _), if_neg (nI_pos (by omega))]
      exact g1 x hx ex tx hm
def DR (S S1 : St) (s P Q : Nat) (N0 : qz_N) (t0 g0 : Nat → Nat) (m : Option (Unit × qz_N)) : Prop := ∃ (t' g' : Nat → Nat) (N1 : qz_N), m = some ((), N1) ∧ RM N1 (s25 S1 g') ∧ KC N0 N1 ∧ (∀ i, i < S 18 0 0 → qz_gi N1 40 0 i = nI (t' i)) ∧ (∀ i, i < S 18 0 0 → t' i ≤ 1) ∧ (∀ i, i < S 18 0 0 → S 20 i 0 ≠ s → t' i = t0 i ∧ g' i = g0 i) ∧ (∀ i, i < S 18 0 0 → S 20 i 0 = s → g' i = prt S Q i) ∧ sg (fun i => if S 20 i 0 = s then prt S Q i else 0) (S 18 0 0) = Q ∧ (∀ i, i < S 18 0 0 → S 20 i 0 = s → prt S Q i ≠ 0 → el S s P i)
theorem M_deal {N0 : qz_N} {S S1 : St} {c s P Q : Nat} (ok : Ok c S) (hS : ∀ f, 18 ≤ f → f ≤ 22 → S1 f = S f) (hs : s ≤ 1) (hP : P ≤ 1000000) (hQ : Q ≤ aA S s P) {t0 g0 : Nat → Nat} {left0 : Nat} (hM0 : RM N0 (s25 S1 g0)) (ht0 : ∀ i, i < S 18 0 0 → qz_gi N0 40 0 i = nI (t0 i)) (hD0 : DI S s P Q left0 t0 g0) : DR S S1 s P Q N0 t0 g0 (fM_deal 0 (nI s) (lN P) (lN left0) N0) := by
  obtain ⟨-, -, -, h40, -, hO⟩ := ok.2.2.2.1
  have aab := aA_b ok s P
  unfold fM_deal fM_deal_7
  have cnt : ∀ t : Nat → Nat, (∀ i, i < S 18 0 0 → t i ≤ 1) → sg t (S 18 0 0) ≤ S 18 0 0 := fun t h => by
    have := sg_ub (f := t) (B := 1) h
    omega
  have c0 := cnt t0 hD0.1
  have fin : ∀ (t g : Nat → Nat) (left : Nat) (N : qz_N), RM N (s25 S1 g) → KC N0 N → (∀ i, i < S 18 0 0 → qz_gi N 40 0 i = nI (t i)) → DI S s P Q left t g → (∀ i, i < S 18 0 0 → S 20 i 0 ≠ s → t i = t0 i ∧ g i = g0 i) → (left = 0 ∨ ∀ j, j < S 18 0 0 → el S s P j → t j = 1) → DR S S1 s P Q N0 t0 g0 (some ((), N)) := by
    intro t g left N hM k0 ht hD hk he
    obtain ⟨a1, a2⟩ := DI_end hD hQ he
    exact ⟨t, g, N, rfl, hM, k0, ht, hD.1, hk, a1, a2⟩
  refine lpP (P := DR S S1 s P Q N0 t0 g0) (fun n a => ∃ (t g : Nat → Nat) (left : Nat) (N : qz_N), RM N (s25 S1 g) ∧ KC N0 N ∧ (∀ i, i < S 18 0 0 → qz_gi N 40 0 i = nI (t i)) ∧ DI S s P Q left t g ∧ (∀ i, i < S 18 0 0 → S 20 i 0 ≠ s → t i = t0 i ∧ g i = g0 i) ∧ ((a = (N, nI s, lN P, lN left, 1) ∧ n = sg t (S 18 0 0)) ∨ (a = (N, nI s, lN P, lN left, 0) ∧ (left = 0 ∨ ∀ j, j < S 18 0 0 → el S s P j → t j = 1) ∧ n = sg t (S 18 0 0) + 1))) (S 18 0 0 + 1) ?_ ?_ (S 18 0 0 + 1 - sg t0 (S 18 0 0)) (sg t0 (S 18 0 0)) 1100 _ (by omega) (by omega) ⟨t0, g0, left0, N0, hM0, KC.rf, ht0, hD0, fun i _ _ => ⟨rfl, rfl⟩, Or.inl ⟨rfl, rfl⟩⟩
  · rintro n a hn ⟨t, g, left, N, hM, k0, ht, hD, hk, ⟨rfl, hc⟩ | ⟨rfl, he, hc⟩⟩ k hkk
    · have hle : left ≤ Q := by have := hD.2.2.2.1; omega
      have ho := hM.ords hS
      show DR S S1 s P Q N0 t0 g0 (fM_deal_7b 0 k N (nI s) (lN P) (lN left) 1)
      unfold fM_deal_7b
      rw [if_neg ne10, ifc (l_le0 (by omega))]
      by_cases l0 : left = 0
      · rw [if_pos l0]
        exact fin t g left N hM k0 ht hD hk (Or.inl l0)
      rw [if_neg l0]
      refine M_scan (Pd := DR S S1 s P Q N0 t0 g0) ok ho ht hD.1 hs hP (fun hall => ?_) (fun x hx ex tx hm => ?_)
      · exact hkk _ ⟨t, g, left, N, hM, k0, ht, hD, hk, Or.inr ⟨rfl, Or.inr hall, by omega⟩⟩
      · obtain ⟨o1, o2, o3, o4, o5, o6⟩ := hO x hx
        obtain ⟨m1, m2, m3, m4⟩ := ho.2 x hx
        have hst := DI_step hD hx ex tx hm
        have ix1 : ¬ (nI x < 0 ∨ 40 ≤ (nI x).toNatClampNeg) := nI_ok (n := 40) (by omega) (by decide)
        have hM2 := RM.w39 (i := x) (v := min (S 21 x 0) left) (hM.w40 (i := x) (v := 1))
        have el2 : fM_least (lN left) (qz_gl (qz_si N 40 0 x 1) 37 0 x) (qz_si N 40 0 x 1) = some (lN (min (S 21 x 0) left), qz_si N 40 0 x 1) := by
          rw [qz_gl_si, m3, M_least2 (by omega) (by omega), show (if S 21 x 0 < left then S 21 x 0 else left) = min (S 21 x 0) left by split <;> omega]
        unfold fM_deal_166 fM_deal_212
        rw [if_neg ne10, if_neg ix1, nar1, nI_tc (by omega), qz_let_eq, if_neg (show ¬ (nI x < 0 ∨ 40 ≤ x) from fun z => z.elim (nI_pos (by omega)) (by omega)), bd el2]
        show DR S S1 s P Q N0 t0 g0 (if nI x < 0 ∨ 40 ≤ x then none else qz_let (qz_sl (qz_si N 40 0 x 1) 39 0 x (lN (min (S 21 x 0) left))) _)
        rw [if_neg (show ¬ (nI x < 0 ∨ 40 ≤ x) from fun z => z.elim (nI_pos (by omega)) (by omega)), qz_let_eq, if_neg (show ¬ (nI x < 0 ∨ 40 ≤ x) from fun z => z.elim (nI_pos (by omega)) (by omega)), qz_let_eq, qz_gl_sl, if_pos ⟨rfl, rfl, rfl⟩, lN_sub (Nat.min_le_right _ _)]
        refine hkk _ ⟨_, _, _, _, hM2, (k0.tr (KC.si (by decide))).tr (KC.sl (by decide)), fun i hi => ?_, hst, fun i hi hne => ?_, Or.inl ⟨rfl, ?_⟩⟩
        · rw [qz_gi_sl, qz_gi_si]
          show (if (40 : Nat) = 40 ∧ (0 : Nat) = 0 ∧ i = x then (1 : Int32) else qz_gi N 40 0 i) = nI (if i = x then 1 else t i)
          by_cases c1 : i = x
          · rw [if_pos ⟨rfl, rfl, c1⟩, if_pos c1]; rfl
          · rw [if_neg (fun z => c1 z.2.2), if_neg c1]; exact ht i hi
        · have c1 : i ≠ x := fun z => hne (z ▸ ex.1)
          show (if i = x then 1 else t i) = t0 i ∧ (if i = x then min (S 21 x 0) left else g i) = g0 i
          rw [if_neg c1, if_neg c1]
          exact hk i hi hne
        · have u : sg (fun i => if i = x then 1 else t i) (S 18 0 0) + t x = sg t (S 18 0 0) + (if x = x then 1 else t x) := sg_upd (f := t) (g := fun i => if i = x then 1 else t i) hx (fun i _ hi => if_neg hi)
          rw [if_pos rfl] at u
          omega
    · show DR S S1 s P Q N0 t0 g0 (fM_deal_7b 0 k N (nI s) (lN P) (lN left) 0)
      unfold fM_deal_7b
      rw [if_pos rfl]
      exact fin t g left N hM k0 ht hD hk he
  · rintro a ⟨t, g, left, N, hM, k0, ht, hD, hk, ⟨rfl, hc⟩ | ⟨rfl, he, hc⟩⟩ k
    · have := cnt t hD.1
      omega
    · show DR S S1 s P Q N0 t0 g0 (fM_deal_7b 0 k N (nI s) (lN P) (lN left) 0)
      unfold fM_deal_7b
      rw [if_pos rfl]
      exact fin t g left N hM k0 ht hD hk he
def ORC (N : qz_N) (S : St) : Prop := qz_gi N 4 0 7 = nI (S 18 0 0) ∧ ∀ i, i < S 18 0 0 → qz_gi N 16 0 i = nI (S 19 i 0) ∧ qz_gi N 17 0 i = nI (S 20 i 0) ∧ qz_gl N 18 0 i = lN (S 21 i 0) ∧ qz_gl N 19 0 i = lN (S 22 i 0)
theorem RC.ords {N : qz_N} {S Z : St} {c : Nat} (ok : Ok c S) (h : RC N Z) (hS : ∀ f, 18 ≤ f → f ≤ 22 → Z f = S f) : ORC N S := by
  obtain ⟨-, -, -, h40, -, -⟩ := ok.2.2.2.1
  refine ⟨by rw [rC18 h, hS 18 (by decide) (by decide)], fun i hi => ⟨?_, ?_, ?_, ?_⟩⟩
  · rw [rC19 h i (by omega), hS 19 (by decide) (by decide)]
  · rw [rC20 h i (by omega), hS 20 (by decide) (by decide)]
  · rw [rC21 h i (by omega), hS 21 (by decide) (by decide)]
  · rw [rC22 h i (by omega), hS 22 (by decide) (by decide)]
theorem E_isBef {N : qz_N} {S : St} {c i j : Nat} (ok : Ok c S) (ho : ORC N S) (hi : i < S 18 0 0) (hj : j < S 18 0 0) (hs : S 20 j 0 = S 20 i 0) : fB_isBefore 0 (nI j) (nI i) N = some (if bf S j i then 1 else 0, N) := by
  obtain ⟨-, -, -, h40, -, hO⟩ := ok.2.2.2.1
  obtain ⟨o1, o2, o3, o4, o5, o6⟩ := hO i hi
  obtain ⟨p1, p2, p3, p4, p5, p6⟩ := hO j hj
  obtain ⟨-, ho⟩ := ho
  obtain ⟨m1, m2, m3, m4⟩ := ho i hi
  obtain ⟨n1, n2, n3, n4⟩ := ho j hj
  have hi' : i < 40 := by omega
  have hj' : j < 40 := by omega
  by_cases c1 : S 22 j 0 = S 22 i 0
  · by_cases c2 : i ≤ j
    · rw [if_neg (by omega)]
      simp (disch := omega) only [fB_isBefore, ix_2m, ix_6m, ix_4m, ix_m4, ix_1s, ix_s, ix_s2, ix_s9, ix_s7, ix_s5, ix_s1, nI_add, nI_p1, ix_n, ix_z, ix_1, ix_eq, ix_le, ix_lt, ix_le0, nI_tc, n_leT, n_leF, n_ltT, n_ltF, n_eqT, n_eqF, or_self, or_false, false_or, ↓reduceIte, ↓qz_letL, ↓qz_letI, qz_oc_s, qz_oc_n, Option.bind_some, ne10, not_false_eq_true, l_x, m4, n4, l_eq]
    · rw [if_pos (by omega)]
      simp (disch := omega) only [fB_isBefore, ix_2m, ix_6m, ix_4m, ix_m4, ix_1s, ix_s, ix_s2, ix_s9, ix_s7, ix_s5, ix_s1, nI_add, nI_p1, ix_n, ix_z, ix_1, ix_eq, ix_le, ix_lt, ix_le0, nI_tc, n_leT, n_leF, n_ltT, n_ltF, n_eqT, n_eqF, or_self, or_false, false_or, ↓reduceIte, ↓qz_letL, ↓qz_letI, qz_oc_s, qz_oc_n, Option.bind_some, ne10, not_false_eq_true, l_x, m4, n4, l_eq]
  · by_cases c0 : S 20 i 0 = 0
    · by_cases c2 : S 22 i 0 ≤ S 22 j 0
      · rw [if_neg (by omega)]
        simp (disch := omega) only [fB_isBefore, ix_2m, ix_6m, ix_4m, ix_m4, ix_1s, ix_s, ix_s2, ix_s9, ix_s7, ix_s5, ix_s1, nI_add, nI_p1, ix_n, ix_z, ix_1, ix_eq, ix_le, ix_lt, ix_le0, nI_tc, n_leT, n_leF, n_ltT, n_ltF, n_eqT, n_eqF, or_self, or_false, false_or, ↓reduceIte, ↓qz_letL, ↓qz_letI, qz_oc_s, qz_oc_n, Option.bind_some, ne10, not_false_eq_true, l_x, m4, n4, m2, l_eq, l_le]
      · rw [if_pos (by omega)]
        simp (disch := omega) only [fB_isBefore, ix_2m, ix_6m, ix_4m, ix_m4, ix_1s, ix_s, ix_s2, ix_s9, ix_s7, ix_s5, ix_s1, nI_add, nI_p1, ix_n, ix_z, ix_1, ix_eq, ix_le, ix_lt, ix_le0, nI_tc, n_leT, n_leF, n_ltT, n_ltF, n_eqT, n_eqF, or_self, or_false, false_or, ↓reduceIte, ↓qz_letL, ↓qz_letI, qz_oc_s, qz_oc_n, Option.bind_some, ne10, not_false_eq_true, l_x, m4, n4, m2, l_eq, l_le]
    · by_cases c2 : S 22 j 0 ≤ S 22 i 0
      · rw [if_neg (by omega)]
        simp (disch := omega) only [fB_isBefore, ix_2m, ix_6m, ix_4m, ix_m4, ix_1s, ix_s, ix_s2, ix_s9, ix_s7, ix_s5, ix_s1, nI_add, nI_p1, ix_n, ix_z, ix_1, ix_eq, ix_le, ix_lt, ix_le0, nI_tc, n_leT, n_leF, n_ltT, n_ltF, n_eqT, n_eqF, or_self, or_false, false_or, ↓reduceIte, ↓qz_letL, ↓qz_letI, qz_oc_s, qz_oc_n, Option.bind_some, ne10, not_false_eq_true, l_x, m4, n4, m2, l_eq, l_le]
      · rw [if_pos (by omega)]
        simp (disch := omega) only [fB_isBefore, ix_2m, ix_6m, ix_4m, ix_m4, ix_1s, ix_s, ix_s2, ix_s9, ix_s7, ix_s5, ix_s1, nI_add, nI_p1, ix_n, ix_z, ix_1, ix_eq, ix_le, ix_lt, ix_le0, nI_tc, n_leT, n_leF, n_ltT, n_ltF, n_eqT, n_eqF, or_self, or_false, false_or, ↓reduceIte, ↓qz_letL, ↓qz_letI, qz_oc_s, qz_oc_n, Option.bind_some, ne10, not_false_eq_true, l_x, m4, n4, m2, l_eq, l_le]
theorem E_before {N : qz_N} {S : St} {c i : Nat} (ok : Ok c S) (ho : ORC N S) (hi : i < S 18 0 0) : fB_beforeOrder 0 (nI i) N = some (lN (bfS S i), N) := by
  obtain ⟨-, -, -, h40, -, hO⟩ := ok.2.2.2.1
  obtain ⟨m1, m2, m3, m4⟩ := ho.2 i hi
  obtain ⟨o1, o2, o3, o4, o5, o6⟩ := hO i hi
  have hi' : i < 40 := by omega
  unfold fB_beforeOrder fB_beforeOrder_5
  refine (lp (fun j => (N, nI i, lN (sg (fun j => if bf S j i then S 21 j 0 else 0) j), nI j)) (S 18 0 0) 1100 (by omega) ?_ ?_ :)
  · intro j hj k
    show fB_beforeOrder_5b 0 k N (nI i) _ (nI j) = k (N, nI i, lN (sg _ j + if bf S j i then S 21 j 0 else 0), nI (j + 1))
    generalize sg (fun j => if bf S j i then S 21 j 0 else 0) j = X
    obtain ⟨n1, n2, n3, n4⟩ := ho.2 j hj
    obtain ⟨p1, p2, p3, p4, p5, p6⟩ := hO j hj
    have h17 := ho.1
    have hj' : j < 40 := by omega
    by_cases c1 : S 20 j 0 = S 20 i 0
    · have eb := E_isBef ok ho hi hj c1
      by_cases c2 : bf S j i
      · rw [if_pos c2] at eb ⊢
        simp (disch := omega) only [fB_beforeOrder_5b, h17, ix_2m, ix_6m, ix_4m, ix_m4, ix_1s, ix_s, ix_s2, ix_s9, ix_s7, ix_s5, ix_s1, nI_add, nI_p1, ix_n, ix_z, ix_1, ix_eq, ix_le, ix_lt, ix_le0, nI_tc, n_leT, n_leF, n_ltT, n_ltF, n_eqT, n_eqF, or_self, or_false, false_or, ↓reduceIte, ↓qz_letL, ↓qz_letI, qz_oc_s, qz_oc_n, Option.bind_some, ne10, not_false_eq_true, l_x, m2, n2, ↓bd eb, ne10, n3, lN_add, fB_beforeOrder_50]
      · rw [if_neg c2] at eb ⊢
        simp (disch := omega) only [fB_beforeOrder_5b, h17, ix_2m, ix_6m, ix_4m, ix_m4, ix_1s, ix_s, ix_s2, ix_s9, ix_s7, ix_s5, ix_s1, nI_add, nI_p1, ix_n, ix_z, ix_1, ix_eq, ix_le, ix_lt, ix_le0, nI_tc, n_leT, n_leF, n_ltT, n_ltF, n_eqT, n_eqF, or_self, or_false, false_or, ↓reduceIte, ↓qz_letL, ↓qz_letI, qz_oc_s, qz_oc_n, Option.bind_some, ne10, not_false_eq_true, l_x, m2, n2, ↓bd eb, fB_beforeOrder_50, Nat.add_zero]
    · rw [if_neg (fun z => c1 z.1)]
      simp (disch := omega) only [fB_beforeOrder_5b, h17, ix_2m, ix_6m, ix_4m, ix_m4, ix_1s, ix_s, ix_s2, ix_s9, ix_s7, ix_s5, ix_s1, nI_add, nI_p1, ix_n, ix_z, ix_1, ix_eq, ix_le, ix_lt, ix_le0, nI_tc, n_leT, n_leF, n_ltT, n_ltF, n_eqT, n_eqF, or_self, or_false, false_or, ↓reduceIte, ↓qz_letL, ↓qz_letI, qz_oc_s, qz_oc_n, Option.bind_some, ne10, not_false_eq_true, l_x, m2, n2, fB_beforeOrder_50, Nat.add_zero]
  · intro k
    show fB_beforeOrder_5b 0 k N (nI i) _ (nI (S 18 0 0)) = _
    unfold fB_beforeOrder_5b
    rw [ho.1, if_pos (by rw [ix_le (by omega) (by omega)]; exact Nat.le_refl _)]
    rfl
theorem l_sneg {a b : Nat} (h : a < b) (hb : b < 9223372036854775808) : lN a - lN b < lN 0 := by
  rcases l_g0 (x := lN a - lN b) with g | ⟨u, hu, e⟩
  · exact g
  · exfalso
    have e2 : lN a = lN (u + b) := by
      rw [← lN_add, ← e, Int64.sub_add_cancel]
    have e3 := congrArg uN e2
    rw [un_lN (by omega), un_lN (by omega)] at e3
    omega
theorem l_sneg' {a b d : Nat} (h : a < b) (hb : b < 9223372036854775808) (hd : d < 9223372036854775808) : lN a - lN b < lN d := by
  have h1 := l_sneg h hb
  rw [Int64.lt_iff_toInt_lt] at h1 ⊢
  rw [pk_lT (by decide)] at h1
  rw [pk_lT (by omega)]
  omega
theorem bfS_b {c : Nat} {S : St} (ok : Ok c S) (i : Nat) : bfS S i ≤ 400000000000 := by
  obtain ⟨-, -, -, h40, -, ho⟩ := ok.2.2.2.1
  have h : bfS S i ≤ S 18 0 0 * 10000000000 := sg_ub (fun j hj => by
    show (if bf S j i then S 21 j 0 else 0) ≤ _
    have := (ho j hj).2.2.2.1
    split <;> omega)
  omega
theorem E_dealAt {N : qz_N} {S : St} (hC : RC N S) {c P Q : Nat} (ok : Ok c S) (hP : P ≤ 1000000) (hQ : Q = if P = 0 then 0 else lst S P) : GoC N (fB_dealAt 0 (lN P) N) () (qz_u3 (qz_u3 (s25 S (fun k => if k < S 18 0 0 then prt S Q k else S 25 k 0)) 23 0 0 Q) 24 0 0 (S 18 0 0)) := by
  obtain ⟨-, -, -, h40, -, hO⟩ := ok.2.2.2.1
  have lb := lst_b ok P
  have Qb : Q ≤ 400000000000 := by rw [hQ]; split <;> omega
  have e0 : fB_dealAt 0 (lN P) N = fB_dealAt_23 0 N (lN Q) := by
    unfold fB_dealAt
    rw [l_0, ifc (l_eq (by omega) (by decide)), hQ]
    by_cases z : P = 0
    · rw [if_pos z, if_pos z]
    · rw [if_neg z, if_neg z, bd (E_bought hC ok (by omega))]
      show Option.bind (fB_soldAt 0 (lN P) N) _ = _
      rw [bd (E_sold hC ok (by omega))]
      have h0 := aA_b ok 0 P
      have h1 := aA_b ok 1 P
      show fB_dealAt_23 0 N (if lN (aA S 0 P) < lN (aA S 1 P) then lN (aA S 0 P) else lN (aA S 1 P)) = _
      rw [ifc (l_lt (by omega) (by omega)), l_ite]
      rfl
  rw [e0]
  unfold fB_dealAt_23 fB_dealAt_27
  refine lpP (P := fun m => GoC N m () (qz_u3 (qz_u3 (s25 S (fun k => if k < S 18 0 0 then prt S Q k else S 25 k 0)) 23 0 0 Q) 24 0 0 (S 18 0 0))) (fun i a => ∃ N1, RC N1 (s25 S (fun k => if k < i then prt S Q k else S 25 k 0)) ∧ KM N N1 ∧ a = (N1, lN Q, nI i)) (S 18 0 0) ?_ ?_ (S 18 0 0) 0 1100 _ (by omega) (by omega) ⟨N, ?_, KM.rf, rfl⟩
  · rintro i a hi ⟨N1, hC, k1, rfl⟩ k hk
    show GoC N (fB_dealAt_27b 0 k N1 (lN Q) (nI i)) _ _
    have ho := RC.ords ok hC (fun f a b => s25_f (by omega))
    obtain ⟨o1, o2, o3, o4, o5, o6⟩ := hO i hi
    obtain ⟨m1, m2, m3, m4⟩ := ho.2 i hi
    have hi' : i < 40 := by omega
    have bb := bfS_b ok i
    unfold fB_dealAt_27b
    rw [ho.1, ifc (ix_le (by omega) (by omega)), if_neg (by omega), if_neg (nI_ok (n := 40) hi' (by decide)), bd (E_before ok ho hi), if_neg (nI_ok (n := 40) hi' (by decide)), nI_tc (by omega), m3]
    have ev : (if (if (lN Q - lN (bfS S i)) < lN (S 21 i 0) then (lN Q - lN (bfS S i)) else lN (S 21 i 0)) < (0 : Int64) then (0 : Int64) else (if (lN Q - lN (bfS S i)) < lN (S 21 i 0) then (lN Q - lN (bfS S i)) else lN (S 21 i 0))) = lN (prt S Q i) := by
      unfold prt
      by_cases c1 : bfS S i ≤ Q
      · rw [lN_sub c1, ifc (l_lt (by omega) (by omega)), l_ite, l_0, ifc (l_lt (by split <;> omega) (by decide)), if_neg (by omega), show (if Q - bfS S i < S 21 i 0 then Q - bfS S i else S 21 i 0) = min (S 21 i 0) (Q - bfS S i) by split <;> omega]
      · rw [if_pos (l_sneg' (by omega) (by omega) (by omega)), if_pos (show lN Q - lN (bfS S i) < 0 from l_sneg (by omega) (by omega)), show min (S 21 i 0) (Q - bfS S i) = 0 by omega]
        rfl
    show GoC N (qz_let (qz_sl N1 20 0 i (if (if (lN Q - lN (bfS S i)) < lN (S 21 i 0) then (lN Q - lN (bfS S i)) else lN (S 21 i 0)) < (0 : Int64) then (0 : Int64) else (if (lN Q - lN (bfS S i)) < lN (S 21 i 0) then (lN Q - lN (bfS S i)) else lN (S 21 i 0)))) _) _ _
    rw [ev]
    refine GoC.wr (wC25 hC i (prt S Q i) hi') (k1.tr (KM.sl (by decide))) (fun N2 hC k2 => ?_)
    rw [s25_u] at hC
    rw [qz_let_eq, nI_p1]
    refine hk _ ⟨N2, ?_, k2, rfl⟩
    rw [show (fun k => if k < i + 1 then prt S Q k else S 25 k 0) = (fun k => if k = i then prt S Q i else if k < i then prt S Q k else S 25 k 0) from funext (fun k => by
      by_cases c1 : k = i
      · rw [if_pos c1, if_pos (by omega), c1]
      · rw [if_neg c1]
        by_cases c2 : k < i
        · rw [if_pos c2, if_pos (by omega)]
        · rw [if_neg c2, if_neg (by omega)])]
    exact hC
  · rintro a ⟨N1, hC, k1, rfl⟩ k
    show GoC N (fB_dealAt_27b 0 k N1 (lN Q) (nI (S 18 0 0))) _ _
    have ho := RC.ords ok hC (fun f a b => s25_f (by omega))
    unfold fB_dealAt_27b
    rw [ho.1, ifc (ix_le (by omega) (by omega)), if_pos (Nat.le_refl _)]
    refine GoC.wr (wC23 hC Q) (k1.tr (KM.sl (by decide))) (fun N2 hC k2 => ?_)
    rw [rC18 hC, u3_f (by decide), s25_f (by decide)]
    exact GoC.wr (wC24 hC (S 18 0 0)) (k2.tr (KM.si (by decide))) (fun N3 hC k3 => GoC.ret hC k3)
  · rw [show s25 S (fun k => if k < 0 then prt S Q k else S 25 k 0) = S from by
      funext f i j
      unfold s25
      by_cases c1 : f = 25 ∧ j = 0
      · rw [if_pos c1, c1.1, c1.2]; rfl
      · rw [if_neg c1]]
    exact hC
theorem s25_c {S : St} {g : Nat → Nat} {f i j v : Nat} (h : f ≠ 25) : qz_u3 (s25 S g) f i j v = s25 (qz_u3 S f i j v) g := by
  funext a b c
  unfold qz_u3 s25
  by_cases c1 : a = 25 ∧ c = 0
  · rw [if_pos c1, if_neg (show ¬ (a = f ∧ b = i ∧ c = j) from fun z => h (z.1 ▸ c1.1)), if_pos c1]
  · rw [if_neg c1, if_neg c1]
theorem ok_24 {S : St} {c n Q : Nat} (ok : Ok c S) (hn : n ≤ 40) (g : Nat → Nat) : Ok c (s25 (qz_u3 (qz_u3 S 24 0 0 n) 23 0 0 Q) g) := by
  obtain ⟨h1, h2, h3, h4, h5, h6', h7⟩ := ok
  unfold Ok
  simp (disch := omega) only [s25_f, u3_f, u3_e]
  refine ⟨h1, h2, h3, ?_, h5, h6', h7⟩
  obtain ⟨a1, a2, a3, a4, a5, a6⟩ := h4
  unfold O4
  rw [up2_s]
  exact ⟨a1, a2, a3, a4, hn, a6⟩
theorem ok_24' {S : St} {c n : Nat} (ok : Ok c S) (hn : n ≤ 40) (g : Nat → Nat) : Ok c (s25 (qz_u3 S 24 0 0 n) g) := by
  obtain ⟨h1, h2, h3, h4, h5, h6', h7⟩ := ok
  unfold Ok
  simp (disch := omega) only [s25_f, u3_f, u3_e]
  refine ⟨h1, h2, h3, ?_, h5, h6', h7⟩
  obtain ⟨a1, a2, a3, a4, a5, a6⟩ := h4
  unfold O4
  rw [up2_s]
  exact ⟨a1, a2, a3, a4, hn, a6⟩
theorem aA_c {S Z : St} (hS : ∀ f, 18 ≤ f → f ≤ 22 → Z f = S f) (s p : Nat) : aA Z s p = aA S s p := by
  have e18 := hS 18 (by decide) (by decide)
  have e20 := hS 20 (by decide) (by decide)
  have e21 := hS 21 (by decide) (by decide)
  have e22 := hS 22 (by decide) (by decide)
  unfold aA el
  rw [e18, e20, e21, e22]
def FQ (S : St) (P Q : Nat) : Prop := (∀ s, s ≤ 1 → sg (fun i => if S 20 i 0 = s then prt S Q i else 0) (S 18 0 0) = Q) ∧ (∀ i, i < S 18 0 0 → S 20 i 0 = 1 → prt S Q i ≠ 0 → P ≤ S 22 i 0)
theorem M_dealt {N : qz_N} {S : St} (hM : RM N S) {c P Q : Nat} (ok : Ok c S) (eP : P = (bst S (S 18 0 0)).1) (hQ : Q = if P = 0 then 0 else lst S P) {Pd : Option (Int64 × qz_N) → Prop} (g : ∀ N1, RM N1 (s25 (qz_u3 (qz_u3 S 24 0 0 (S 18 0 0)) 23 0 0 Q) (fun k => if k < S 18 0 0 then prt S Q k else S 25 k 0)) → KC N N1 → FQ S P Q → Pd (fM_clear_96 0 N1 (lN P))) : Pd (fM_clear 0 N) := by
  obtain ⟨-, -, -, h40, -, hO⟩ := ok.2.2.2.1
  have hP : P ≤ 1000000 := by rw [eP]; exact (bst_b ok _ (Nat.le_refl _)).1
  have lb := lst_b ok P
  have Qb : Q ≤ 400000000000 := by rw [hQ]; split <;> omega
  unfold fM_clear
  rw [bd (M_best hM ok), ← eP]
  show Pd (qz_let (qz_si N 7 0 23 (qz_gi N 7 0 17)) _)
  rw [rM18 hM, qz_let_eq]
  unfold fM_clear_15
  refine lpP (P := Pd) (fun i a => ∃ (N1 : qz_N) (q : Nat → Nat), RM N1 (s25 (qz_u3 S 24 0 0 (S 18 0 0)) q) ∧ KC N N1 ∧ (∀ k, k < i → q k = 0 ∧ qz_gi N1 40 0 k = 0) ∧ a = (N1, lN P, nI i)) 40 ?_ ?_ 40 0 1100 _ (by decide) (by decide) ⟨_, _, hM.w24, KC.si (by decide), fun k hk => by omega, rfl⟩
  · rintro i a hi ⟨N1, q, hM, k1, hz, rfl⟩ k hk
    show Pd (fM_clear_15b 0 k N1 (lN P) (nI i))
    unfold fM_clear_15b
    rw [i_40, ifc (ix_le (by decide) (by omega)), if_neg (by omega), if_neg (nI_ok (n := 40) hi (by decide)), nI_tc (by omega), qz_let_eq, if_neg (show ¬ (nI i < 0 ∨ 40 ≤ i) from fun z => z.elim (nI_pos (by omega)) (by omega)), nar0, qz_let_eq, qz_let_eq, nI_p1, l_0]
    refine hk _ ⟨_, _, (RM.w39 (i := i) (v := 0) hM).w40 (i := i) (v := 0), (k1.tr (KC.sl (by decide))).tr (KC.si (by decide)), fun j hj => ?_, rfl⟩
    rw [qz_gi_si, qz_gi_sl]
    show (if j = i then 0 else q j) = 0 ∧ (if (40 : Nat) = 40 ∧ (0 : Nat) = 0 ∧ j = i then (0 : Int32) else qz_gi N1 40 0 j) = 0
    by_cases c1 : j = i
    · rw [if_pos c1, if_pos ⟨rfl, rfl, c1⟩]; exact ⟨rfl, rfl⟩
    · rw [if_neg c1, if_neg (fun z => c1 z.2.2)]; exact hz j (by omega)
  · rintro a ⟨N1, q, hM, k1, hz, rfl⟩ k
    show Pd (fM_clear_15b 0 k N1 (lN P) (nI 40))
    unfold fM_clear_15b
    rw [if_pos (by decide), l_0, ifc (l_eq (by omega) (by decide))]
    have hS24 : ∀ f, 18 ≤ f → f ≤ 22 → s25 (qz_u3 S 24 0 0 (S 18 0 0)) q f = S f := fun f a b => by rw [s25_f (by omega), u3_f (by omega)]
    have ok24 := ok_24' (n := S 18 0 0) ok h40 q
    have e67 : (if P = 0 then fM_clear_67 0 N1 (lN P) (lN 0) 0 else (fM_allAt 0 (1 : Int32) (lN P) N1).bind fun q4 => (fM_allAt 0 (0 : Int32) (lN P) q4.2).bind fun q6 => (fM_least q4.1 q6.1 q6.2).bind fun q8 => fM_clear_67 0 q8.2 (lN P) q8.1 0) = fM_clear_67 0 N1 (lN P) (lN Q) 0 := by
      rw [hQ]
      by_cases z : P = 0
      · rw [if_pos z, if_pos z]
      · rw [if_neg z, if_neg z]
        have e1 : fM_allAt 0 1 (lN P) N1 = some (lN (aA S 1 P), N1) := by
          have := M_allAt hM ok24 (s := 1) (p := P) (by decide) (by omega)
          rw [aA_c hS24] at this
          exact this
        have e2 : fM_allAt 0 0 (lN P) N1 = some (lN (aA S 0 P), N1) := by
          have := M_allAt hM ok24 (s := 0) (p := P) (by decide) (by omega)
          rw [aA_c hS24] at this
          exact this
        have h0 := aA_b ok 0 P
        have h1 := aA_b ok 1 P
        rw [bd e1]
        show Option.bind (fM_allAt 0 0 (lN P) N1) _ = _
        rw [bd e2]
        show Option.bind (fM_least (lN (aA S 1 P)) (lN (aA S 0 P)) N1) _ = _
        rw [bd (M_least2 (by omega) (by omega) N1)]
        rfl
    rw [e67]
    unfold fM_clear_67
    have hM2 := wM23 hM Q
    rw [s25_c (by decide)] at hM2
    rw [qz_let_eq, ifc (l_le0 (by omega))]
    have k2 : KC N (qz_sl N1 7 0 22 (lN Q)) := k1.tr (KC.sl (by decide))
    have hf : ∀ k, k < S 18 0 0 → qz_gi (qz_sl N1 7 0 22 (lN Q)) 40 0 k = nI 0 := fun k hk => by rw [qz_gi_sl]; exact (hz k (by omega)).2
    have hS1 : ∀ f, 18 ≤ f → f ≤ 22 → qz_u3 (qz_u3 S 24 0 0 (S 18 0 0)) 23 0 0 Q f = S f := fun f a b => by rw [u3_f (by omega), u3_f (by omega)]
    have e24 : qz_u3 (qz_u3 S 24 0 0 (S 18 0 0)) 23 0 0 Q 24 0 0 = S 18 0 0 := by rw [u3_f (by decide), u3_s]
    generalize qz_sl N1 7 0 22 (lN Q) = N2 at *
    by_cases z : P = 0
    · rw [if_pos z]
      have q0 : Q = 0 := by rw [hQ, if_pos z]
      refine g N2 (hM2.c25 (fun k hk => ?_)) k2 ⟨fun s _ => ?_, fun i _ _ hne => ?_⟩
      · rw [e24] at hk
        rw [if_pos hk, (hz k (by omega)).1]
        unfold prt
        omega
      · rw [sg_0 (fun i _ => ?_), q0]
        show (if S 20 i 0 = s then prt S Q i else 0) = 0
        unfold prt
        split <;> omega
      · unfold prt at hne
        omega
    · rw [if_neg z]
      have hl : Q = lst S P := by rw [hQ, if_neg z]
      have r23 := rM23 hM2
      rw [s25_f (by decide), u3_s] at r23
      have di1 : DI S 1 P Q Q (fun _ => 0) q := by
        refine ⟨fun i _ => Nat.zero_le _, fun i _ _ h => absurd (show (0 : Nat) = 1 from h) (by decide), fun i hi _ _ => (hz i (by omega)).1, ?_, ?_⟩
        · rw [sg_0 (fun i _ => ?_), Nat.add_zero]
          exact if_neg (fun z => absurd (show (0 : Nat) = 1 from z.2) (by decide))
        · rw [sg_0 (fun i _ => ?_), Nat.sub_zero]
          exact if_neg (fun z => absurd (show (0 : Nat) = 1 from z.2) (by decide))
      obtain ⟨t', g', N3, e3, hM3, k3, f3, t3, o3, p3, s3, l3⟩ := M_deal ok hS1 (s := 1) (P := P) (Q := Q) (by decide) hP (by rw [hl]; unfold lst; split <;> omega) hM2 hf di1
      have e3 : fM_deal 0 1 (lN P) (lN Q) N2 = some ((), N3) := e3
      rw [r23, bd e3]
      have r23' := rM23 hM3
      rw [s25_f (by decide), u3_s] at r23'
      have di0 : DI S 0 P Q Q t' g' := by
        refine ⟨t3, fun i hi hs h => ?_, fun i hi hs _ => ?_, ?_, ?_⟩
        · have : t' i = 0 := (o3 i hi (by omega)).1
          omega
        · rw [(o3 i hi (by omega)).2]; exact (hz i (by omega)).1
        · rw [sg_0 (fun i hi => ?_), Nat.add_zero]
          refine if_neg (fun z => ?_)
          have : t' i = 0 := (o3 i hi (by omega)).1
          omega
        · rw [sg_0 (fun i hi => ?_), Nat.sub_zero]
          refine if_neg (fun z => ?_)
          have : t' i = 0 := (o3 i hi (by omega)).1
          omega
      obtain ⟨t4, g4, N4, e4, hM4, k4, f4, t4', o4, p4, s4, l4⟩ := M_deal ok hS1 (s := 0) (P := P) (Q := Q) (by decide) hP (by rw [hl]; unfold lst; split <;> omega) hM3 f3 di0
      have e4 : fM_deal 0 0 (lN P) (lN Q) N3 = some ((), N4) := e4
      show Pd (Option.bind (fM_deal 0 0 (lN P) (qz_gl N3 7 0 22) N3) _)
      rw [r23', bd e4]
      refine g N4 (hM4.c25 (fun k hk => ?_)) ((k2.tr k3).tr k4) ⟨fun s hs => ?_, fun i hi hs hne => ?_⟩
      · rw [e24] at hk
        rw [if_pos hk]
        by_cases c1 : S 20 k 0 = 0
        · exact p4 k hk c1
        · rw [(o4 k hk c1).2]
          exact p3 k hk (by have := (hO k hk).2.1; omega)
      · rcases (show s = 0 ∨ s = 1 by omega) with rfl | rfl
        · exact s4
        · exact s3
      · have := (l3 i hi hs hne).2
        omega
theorem u3_same {α : Type} {f : Nat → Nat → Nat → α} {c i k : Nat} : qz_u3 f c i k (f c i k) = f := by
  funext a b d
  unfold qz_u3
  by_cases h : a = c ∧ b = i ∧ d = k
  · rw [if_pos h, h.1, h.2.1, h.2.2]
  · rw [if_neg h]
def gotV (S : St) (P Q k : Nat) : Nat := prt S Q k * P / 1000
def paidV (S : St) (P Q k : Nat) : Nat := (prt S Q k * P + 999) / 1000
def gA (S : St) (Q k : Nat) : Nat := if S 20 k 0 = 0 then S 21 k 0 - prt S Q k else prt S Q k
def gB (S : St) (P Q k : Nat) : Nat := if S 20 k 0 = 0 then gotV S P Q k else hl (S 20) (S 21) (S 22) k - paidV S P Q k
def gn (S : St) (P Q a j k : Nat) : Nat := if S 19 k 0 = a then (if j = S 16 0 0 then gA S Q k else if j = S 17 0 0 then gB S P Q k else 0) else 0
def acc (S : St) (P Q : Nat) : Nat → Int64
  | 0 => lN 0
  | k + 1 => if S 20 k 0 = 0 then acc S P Q k - lN (gotV S P Q k) else acc S P Q k + lN (paidV S P Q k)
theorem acc_s (S : St) (P Q k : Nat) : acc S P Q (k + 1) = if S 20 k 0 = 0 then acc S P Q k - lN (gotV S P Q k) else acc S P Q k + lN (paidV S P Q k) := rfl
def PD (S : St) (P Q : Nat) (n : Nat) : Nat := sg (fun k => if S 20 k 0 = 0 then 0 else paidV S P Q k) n
def GT (S : St) (P Q : Nat) (n : Nat) : Nat := sg (fun k => if S 20 k 0 = 0 then gotV S P Q k else 0) n
theorem acc_sum (S : St) (P Q : Nat) : ∀ n, acc S P Q n + lN (GT S P Q n) = lN (PD S P Q n) := by
  intro n
  induction n with
  | zero => show lN 0 + lN 0 = lN 0; rw [lN_add]
  | succ n ih =>
    have e1 : GT S P Q (n + 1) = GT S P Q n + if S 20 n 0 = 0 then gotV S P Q n else 0 := rfl
    have e2 : PD S P Q (n + 1) = PD S P Q n + if S 20 n 0 = 0 then 0 else paidV S P Q n := rfl
    rw [acc_s, e1, e2]
    by_cases c : S 20 n 0 = 0
    · rw [if_pos c, if_pos c, if_pos c, Nat.add_zero, ← lN_add, ← ih, Int64.add_comm (lN (GT S P Q n)), ← Int64.add_assoc, Int64.sub_add_cancel]
    · rw [if_neg c, if_neg c, if_neg c, Nat.add_zero, ← lN_add, ← ih, Int64.add_assoc, Int64.add_comm (lN (paidV S P Q n)), ← Int64.add_assoc]
def clS (S Z : St) (P Q n h : Nat) : St := fun f a j => if f = 0 ∧ a < 6 ∧ j < 4 then Z 0 a j + sg (gn S P Q a j) n else if f = 2 ∧ a = S 17 0 0 ∧ j = 0 then h else Z f a j
theorem cl_f {S Z : St} {P Q n h f : Nat} (h0 : f ≠ 0) (h2 : f ≠ 2) : clS S Z P Q n h f = Z f := by
  funext a j
  unfold clS
  rw [if_neg (fun z => h0 z.1), if_neg (fun z => h2 z.1)]
theorem cl_0 {S Z : St} {P Q n h a j : Nat} (ha : a < 6) (hj : j < 4) : clS S Z P Q n h 0 a j = Z 0 a j + sg (gn S P Q a j) n := by
  unfold clS; rw [if_pos ⟨rfl, ha, hj⟩]
theorem cl_2 {S Z : St} {P Q n h : Nat} : clS S Z P Q n h 2 (S 17 0 0) 0 = h := by
  unfold clS; rw [if_neg (by omega), if_pos ⟨rfl, rfl, rfl⟩]
theorem cl_b {S Z : St} {P Q : Nat} : clS S Z P Q 0 (Z 2 (S 17 0 0) 0) = Z := by
  funext f a j
  unfold clS
  by_cases c1 : f = 0 ∧ a < 6 ∧ j < 4
  · rw [if_pos c1, c1.1]; rfl
  · rw [if_neg c1]
    by_cases c2 : f = 2 ∧ a = S 17 0 0 ∧ j = 0
    · rw [if_pos c2, c2.1, c2.2.1, c2.2.2]
    · rw [if_neg c2]
theorem cl_h {S Z : St} {P Q n h h' : Nat} : qz_u3 (clS S Z P Q n h) 2 (S 17 0 0) 0 h' = clS S Z P Q n h' := by
  funext f a j
  by_cases c2 : f = 2 ∧ a = S 17 0 0 ∧ j = 0
  · obtain ⟨rfl, rfl, rfl⟩ := c2
    rw [u3_s, cl_2]
  · have e : qz_u3 (clS S Z P Q n h) 2 (S 17 0 0) 0 h' f a j = clS S Z P Q n h f a j := by unfold qz_u3; rw [if_neg c2]
    rw [e]
    unfold clS
    rw [if_neg c2, if_neg c2]
theorem cl_s {S Z : St} {P Q n h p x y : Nat} (hp : p < 6) (ep : S 19 n 0 = p) (tA : S 16 0 0 < 4) (tB : S 17 0 0 < 4) (tn : S 16 0 0 ≠ S 17 0 0) (ex : gA S Q n = x) (ey : gB S P Q n = y) : qz_u3 (qz_u3 (clS S Z P Q n h) 0 p (S 16 0 0) (clS S Z P Q n h 0 p (S 16 0 0) + x)) 0 p (S 17 0 0) (clS S Z P Q n h 0 p (S 17 0 0) + y) = clS S Z P Q (n + 1) h := by
  funext f a j
  by_cases c1 : f = 0 ∧ a < 6 ∧ j < 4
  · obtain ⟨rfl, ha, hj⟩ := c1
    rw [cl_0 ha hj, sg_s]
    have e : gn S P Q a j n = if p = a then (if j = S 16 0 0 then x else if j = S 17 0 0 then y else 0) else 0 := by
      unfold gn; rw [ep, ex, ey]
    by_cases c2 : p = a
    · subst c2
      rw [if_pos rfl] at e
      by_cases c3 : j = S 17 0 0
      · rw [if_neg (by omega), if_pos c3] at e
        rw [c3] at e ⊢
        rw [u3_s, cl_0 hp tB, e]; omega
      · rw [u3_j c3]
        by_cases c4 : j = S 16 0 0
        · rw [if_pos c4] at e
          rw [c4] at e ⊢
          rw [u3_s, cl_0 hp tA, e]; omega
        · rw [if_neg c4, if_neg c3] at e
          rw [u3_j c4, cl_0 hp hj, e]; rfl
    · rw [if_neg c2] at e
      rw [u3_i (Ne.symm c2), u3_i (Ne.symm c2), cl_0 ha hj, e]; rfl
  · have k : ∀ n, clS S Z P Q n h f a j = if f = 2 ∧ a = S 17 0 0 ∧ j = 0 then h else Z f a j := fun n => by unfold clS; rw [if_neg c1]
    have e : qz_u3 (qz_u3 (clS S Z P Q n h) 0 p (S 16 0 0) (clS S Z P Q n h 0 p (S 16 0 0) + x)) 0 p (S 17 0 0) (clS S Z P Q n h 0 p (S 17 0 0) + y) f a j = clS S Z P Q n h f a j := by
      unfold qz_u3
      rw [if_neg (by omega), if_neg (by omega)]
    rw [e, k, k]
theorem cl_s' {S Z : St} {P Q n h p x y : Nat} (hp : p < 6) (ep : S 19 n 0 = p) (tA : S 16 0 0 < 4) (tB : S 17 0 0 < 4) (tn : S 16 0 0 ≠ S 17 0 0) (ex : gA S Q n = x) (ey : gB S P Q n = y) : qz_u3 (qz_u3 (clS S Z P Q n h) 0 p (S 17 0 0) (clS S Z P Q n h 0 p (S 17 0 0) + y)) 0 p (S 16 0 0) (clS S Z P Q n h 0 p (S 16 0 0) + x) = clS S Z P Q (n + 1) h := by
  rw [u3_c (by omega)]
  exact cl_s hp ep tA tB tn ex ey
theorem prt_le (S : St) (Q k : Nat) : prt S Q k ≤ S 21 k 0 := Nat.min_le_left _ _
theorem paid_le {S : St} {c P Q k : Nat} (ok : Ok c S) (hk : k < S 18 0 0) (hP : P ≤ 1000000) (hF : S 20 k 0 = 1 → prt S Q k ≠ 0 → P ≤ S 22 k 0) (hb : S 20 k 0 ≠ 0) : paidV S P Q k ≤ hl (S 20) (S 21) (S 22) k := by
  obtain ⟨-, -, -, h40, -, hO⟩ := ok.2.2.2.1
  obtain ⟨o1, o2, o3, o4, o5, o6⟩ := hO k hk
  have pl := prt_le S Q k
  unfold paidV hl
  rw [if_neg hb]
  have h : prt S Q k * P ≤ S 21 k 0 * S 22 k 0 := by
    by_cases z : prt S Q k = 0
    · rw [z, Nat.zero_mul]; exact Nat.zero_le _
    · exact Nat.mul_le_mul pl (hF (by omega) z)
  exact Nat.div_le_div_right (by omega)
theorem prod_b {S : St} {c P Q k : Nat} (ok : Ok c S) (hk : k < S 18 0 0) (hP : P ≤ 1000000) : prt S Q k * P ≤ 10000000000000000 ∧ S 21 k 0 * S 22 k 0 ≤ 10000000000000000 ∧ prt S Q k ≤ 10000000000 := by
  obtain ⟨-, -, -, h40, -, hO⟩ := ok.2.2.2.1
  obtain ⟨o1, o2, o3, o4, o5, o6⟩ := hO k hk
  have pl := prt_le S Q k
  have h1 : prt S Q k * P ≤ 10000000000 * 1000000 := Nat.mul_le_mul (by omega) hP
  have h2 : S 21 k 0 * S 22 k 0 ≤ 10000000000 * 1000000 := Nat.mul_le_mul o4 o6
  omega
theorem E_pu {a b : Nat} (h : a * b ≤ 10000000000000000) (N : qz_N) : fB_priceUp (lN a) (lN b) N = some (lN ((a * b + 999) / 1000), N) := by
  unfold fB_priceUp
  rw [lN_mul, l_k, l_1, lN_add, lN_sub (by omega), l_div (by omega) (by decide) (by decide), show a * b + 1000 - 1 = a * b + 999 by omega]
theorem E_settle {N : qz_N} {S Z : St} {c P Q : Nat} (ok : Ok c S) (hP : P ≤ 1000000) (hF : FQ S P Q) (hC : RC N Z) (hZ : ∀ f, f ≠ 23 → f ≠ 24 → f ≠ 25 → Z f = S f) (h25 : ∀ k, k < S 18 0 0 → Z 25 k 0 = prt S Q k) {H : Nat} (hH : lN H = lN (S 2 (S 17 0 0) 0) + acc S P Q (S 18 0 0)) : GoC N (fE_clear_18 0 1100 (N, lN P, 0)) (lN P) (qz_u3 (clS S Z P Q (S 18 0 0) H) 18 0 0 0) := by
  obtain ⟨tA, tB, tn, h40, -, hO⟩ := ok.2.2.2.1
  have hcl : ∀ n h f, 16 ≤ f → f ≤ 22 → clS S Z P Q n h f = S f := fun n h f a b => by rw [cl_f (by omega) (by omega), hZ f (by omega) (by omega) (by omega)]
  unfold fE_clear_18
  refine lpP (P := fun m => GoC N m (lN P) (qz_u3 (clS S Z P Q (S 18 0 0) H) 18 0 0 0)) (fun i a => ∃ (N1 : qz_N) (h : Nat), RC N1 (clS S Z P Q i h) ∧ lN h = lN (S 2 (S 17 0 0) 0) + acc S P Q i ∧ KM N N1 ∧ a = (N1, lN P, nI i)) (S 18 0 0) ?_ ?_ (S 18 0 0) 0 1100 _ (by omega) (by omega) ⟨N, Z 2 (S 17 0 0) 0, ?_, ?_, KM.rf, rfl⟩
  · rintro i a hi ⟨N1, h, hC, hh, k1, rfl⟩ k hk
    show GoC N (fE_clear_18b 0 k N1 (lN P) (nI i)) _ _
    have ho := RC.ords ok hC (fun f a b => hcl i h f (by omega) b)
    obtain ⟨o1, o2, o3, o4, o5, o6⟩ := hO i hi
    obtain ⟨m1, m2, m3, m4⟩ := ho.2 i hi
    have hi' : i < 40 := by omega
    obtain ⟨b1, b2, b3⟩ := prod_b (Q := Q) ok hi hP
    have m5 : qz_gl N1 20 0 i = lN (prt S Q i) := by rw [rC25 hC i hi', cl_f (by decide) (by decide), h25 i hi]
    have ix0 : ¬ (nI i < 0 ∨ 40 ≤ (nI i).toNatClampNeg) := nI_ok (n := 40) hi' (by decide)
    have ix1 : ¬ (nI i < 0 ∨ 40 ≤ i) := fun z => z.elim (nI_pos (by omega)) (by omega)
    have r16 : ∀ N2 Z2, RC N2 Z2 → Z2 16 = S 16 → qz_gi N2 4 0 5 = nI (S 16 0 0) := fun N2 Z2 h e => by rw [rC16 h, e]
    have r17 : ∀ N2 Z2, RC N2 Z2 → Z2 17 = S 17 → qz_gi N2 4 0 6 = nI (S 17 0 0) := fun N2 Z2 h e => by rw [rC17 h, e]
    have r19 : ∀ N2 Z2, RC N2 Z2 → Z2 19 = S 19 → qz_gi N2 16 0 i = nI (S 19 i 0) := fun N2 Z2 h e => by rw [rC19 h i hi', e]
    unfold fE_clear_18b fE_clear_56
    rw [ho.1, ifc (ix_le (by omega) (by omega)), if_neg (by omega), if_neg ix0, nI_tc (by omega), m2, ifc (ix_z (by omega))]
    by_cases c1 : S 20 i 0 = 0
    · rw [if_pos c1]
      unfold fE_settleSeller
      rw [if_neg ix0, nI_tc (by omega), m5, qz_let_eq, lN_mul, l_k, l_div (by omega) (by decide) (by decide), qz_let_eq, if_neg ix1, if_neg ix1, m3, m1, r16 _ _ hC (hcl i h 16 (by decide) (by decide)), lN_sub (prt_le S Q i)]
      have eA : gA S Q i = S 21 i 0 - prt S Q i := by unfold gA; rw [if_pos c1]
      have eB : gB S P Q i = prt S Q i * P / 1000 := by unfold gB; rw [if_pos c1]; rfl
      have ea : acc S P Q (i + 1) = acc S P Q i - lN (prt S Q i * P / 1000) := by rw [acc_s, if_pos c1]; rfl
      refine GoC.call (a := ()) (S1 := clS S Z P Q (i + 1) (uN (lN h - lN (prt S Q i * P / 1000)))) ?_ k1 (fun N2 hC k2 => ?_)
      · refine GoC.call (E_give hC o1 tA) KM.rf (fun N2 hC k2 => ?_)
        show GoC N1 (if nI i < 0 ∨ 40 ≤ i then none else _) _ _
        rw [if_neg ix1]
        show GoC N1 (Option.bind (fU_give 0 (qz_gi N2 16 0 i) (qz_gi N2 4 0 6) _ N2) _) _ _
        rw [r19 _ _ hC (by rw [u3_f (by decide)]; exact hcl i h 19 (by decide) (by decide)), r17 _ _ hC (by rw [u3_f (by decide)]; exact hcl i h 17 (by decide) (by decide))]
        refine GoC.call (E_give hC o1 tB) k2 (fun N3 hC k3 => ?_)
        rw [u3_j (Ne.symm tn), cl_s o1 rfl tA tB tn eA eB] at hC
        show GoC N1 (if (qz_gi N3 4 0 6) < 0 ∨ 4 ≤ (qz_gi N3 4 0 6).toNatClampNeg then none else if (qz_gi N3 4 0 6) < 0 ∨ 4 ≤ (qz_gi N3 4 0 6).toNatClampNeg then none else qz_let (qz_sl N3 14 0 (qz_gi N3 4 0 6).toNatClampNeg ((qz_gl N3 14 0 (qz_gi N3 4 0 6).toNatClampNeg) - lN (prt S Q i * P / 1000))) _) _ _
        rw [r17 _ _ hC (hcl _ h 17 (by decide) (by decide)), if_neg (nI_ok (n := 4) tB (by decide)), if_neg (nI_ok (n := 4) tB (by decide)), nI_tc (by omega), rC2 hC _ tB, cl_2, ← un_eq (lN h - lN (prt S Q i * P / 1000))]
        refine GoC.wr (wC2 hC (S 17 0 0) (uN (lN h - lN (prt S Q i * P / 1000))) tB) (k3.tr (KM.sl (by decide))) (fun N4 hC k4 => ?_)
        rw [cl_h] at hC
        rw [un_eq]
        exact GoC.ret hC k4
      · rw [qz_let_eq, nI_p1]
        refine hk _ ⟨N2, _, hC, ?_, k2, rfl⟩
        rw [un_eq, ea, hh, Int64.sub_eq_add_neg, Int64.sub_eq_add_neg, Int64.add_assoc]
    · rw [if_neg c1]
      have pl := paid_le ok hi hP (hF.2 i hi) c1
      unfold fE_settleBuyer
      rw [if_neg ix0, nI_tc (by omega), m5, qz_let_eq, bd (E_pu b1 N1)]
      show GoC N (Option.bind (if nI i < 0 ∨ 40 ≤ i then none else if nI i < 0 ∨ 40 ≤ i then none else (fB_priceUp (qz_gl N1 18 0 i) (qz_gl N1 19 0 i) N1).bind _) _) _ _
      rw [if_neg ix1, if_neg ix1, m3, m4, bd (E_pu b2 N1)]
      show GoC N (Option.bind (if nI i < 0 ∨ 40 ≤ i then none else (fU_give 0 (qz_gi N1 16 0 i) (qz_gi N1 4 0 5) (lN (prt S Q i)) N1).bind _) _) _ _
      rw [if_neg ix1, m1, r16 _ _ hC (hcl i h 16 (by decide) (by decide))]
      have eh : hl (S 20) (S 21) (S 22) i = (S 21 i 0 * S 22 i 0 + 999) / 1000 := by unfold hl; rw [if_neg c1]
      rw [eh] at pl
      have pl : (prt S Q i * P + 999) / 1000 ≤ (S 21 i 0 * S 22 i 0 + 999) / 1000 := pl
      have eA : gA S Q i = prt S Q i := by unfold gA; rw [if_neg c1]
      have eB : gB S P Q i = (S 21 i 0 * S 22 i 0 + 999) / 1000 - (prt S Q i * P + 999) / 1000 := by unfold gB; rw [if_neg c1, eh]; rfl
      have ea : acc S P Q (i + 1) = acc S P Q i + lN ((prt S Q i * P + 999) / 1000) := by rw [acc_s, if_neg c1]; rfl
      refine GoC.call (a := ()) (S1 := clS S Z P Q (i + 1) (uN (lN h + lN ((prt S Q i * P + 999) / 1000)))) ?_ k1 (fun N2 hC k2 => ?_)
      · refine GoC.call (E_give hC o1 tA) KM.rf (fun N2 hC k2 => ?_)
        show GoC N1 (if nI i < 0 ∨ 40 ≤ i then none else _) _ _
        rw [if_neg ix1]
        show GoC N1 (Option.bind (fU_give 0 (qz_gi N2 16 0 i) (qz_gi N2 4 0 6) (lN ((S 21 i 0 * S 22 i 0 + 999) / 1000) - lN ((prt S Q i * P + 999) / 1000)) N2) _) _ _
        rw [r19 _ _ hC (by rw [u3_f (by decide)]; exact hcl i h 19 (by decide) (by decide)), r17 _ _ hC (by rw [u3_f (by decide)]; exact hcl i h 17 (by decide) (by decide)), lN_sub pl]
        refine GoC.call (E_give hC o1 tB) k2 (fun N3 hC k3 => ?_)
        rw [u3_j (Ne.symm tn), cl_s o1 rfl tA tB tn eA eB] at hC
        show GoC N1 (if (qz_gi N3 4 0 6) < 0 ∨ 4 ≤ (qz_gi N3 4 0 6).toNatClampNeg then none else if (qz_gi N3 4 0 6) < 0 ∨ 4 ≤ (qz_gi N3 4 0 6).toNatClampNeg then none else qz_let (qz_sl N3 14 0 (qz_gi N3 4 0 6).toNatClampNeg ((qz_gl N3 14 0 (qz_gi N3 4 0 6).toNatClampNeg) + lN ((prt S Q i * P + 999) / 1000))) _) _ _
        rw [r17 _ _ hC (hcl _ h 17 (by decide) (by decide)), if_neg (nI_ok (n := 4) tB (by decide)), if_neg (nI_ok (n := 4) tB (by decide)), nI_tc (by omega), rC2 hC _ tB, cl_2, ← un_eq (lN h + lN ((prt S Q i * P + 999) / 1000))]
        refine GoC.wr (wC2 hC (S 17 0 0) (uN (lN h + lN ((prt S Q i * P + 999) / 1000))) tB) (k3.tr (KM.sl (by decide))) (fun N4 hC k4 => ?_)
        rw [cl_h] at hC
        rw [un_eq]
        exact GoC.ret hC k4
      · rw [qz_let_eq, nI_p1]
        refine hk _ ⟨N2, _, hC, ?_, k2, rfl⟩
        rw [un_eq, ea, hh, Int64.add_assoc]
  · rintro a ⟨N1, h, hC, hh, k1, rfl⟩ k
    show GoC N (fE_clear_18b 0 k N1 (lN P) (nI (S 18 0 0))) _ _
    have ho := RC.ords ok hC (fun f a b => hcl (S 18 0 0) h f (by omega) b)
    unfold fE_clear_18b
    rw [ho.1, ifc (ix_le (by omega) (by omega)), if_pos (Nat.le_refl _)]
    have hC2 : RC N1 (clS S Z P Q (S 18 0 0) H) := by
      have w := wC2 hC (S 17 0 0) H tB
      rw [cl_h] at w
      have e : qz_sl N1 14 0 (S 17 0 0) (lN H) = N1 := by
        have r := rC2 hC (S 17 0 0) tB
        rw [cl_2, hh, ← hH] at r
        rw [← r]
        unfold qz_sl
        refine Prod.ext rfl ?_
        exact u3_same
      rw [e] at w
      exact w
    exact GoC.wr (wC18 hC2 0) (k1.tr (KM.si (by decide))) (fun N2 hC k2 => GoC.ret hC k2)
  · rw [cl_b]; exact hC
  · rw [hZ 2 (by decide) (by decide) (by decide)]
    show lN (S 2 (S 17 0 0) 0) = lN (S 2 (S 17 0 0) 0) + lN 0
    rw [lN_add, Nat.add_zero]
theorem M_settle {N : qz_N} {S Z : St} {c P Q : Nat} (ok : Ok c S) (hP : P ≤ 1000000) (hF : FQ S P Q) (hM : RM N Z) (hZ : ∀ f, f ≠ 23 → f ≠ 24 → f ≠ 25 → Z f = S f) (h24 : Z 24 0 0 = S 18 0 0) (h25 : ∀ k, k < S 18 0 0 → Z 25 k 0 = prt S Q k) {H : Nat} (hH : lN H = lN (S 2 (S 17 0 0) 0) + acc S P Q (S 18 0 0)) {N0 : qz_N} (k0 : KC N0 N) : GoM N0 (fM_clear_96 0 N (lN P)) (lN P) (qz_u3 (clS S Z P Q (S 18 0 0) H) 18 0 0 0) := by
  obtain ⟨tA, tB, tn, h40, -, hO⟩ := ok.2.2.2.1
  have hcl : ∀ n h f, 16 ≤ f → f ≤ 22 → clS S Z P Q n h f = S f := fun n h f a b => by rw [cl_f (by omega) (by omega), hZ f (by omega) (by omega) (by omega)]
  unfold fM_clear_96 fM_clear_101
  refine lpP (P := fun m => GoM N0 m (lN P) (qz_u3 (clS S Z P Q (S 18 0 0) H) 18 0 0 0)) (fun i a => ∃ (N1 : qz_N), RM N1 (clS S Z P Q i (Z 2 (S 17 0 0) 0)) ∧ KC N0 N1 ∧ a = (N1, lN P, acc S P Q i, nI i)) (S 18 0 0) ?_ ?_ (S 18 0 0) 0 1100 _ (by omega) (by omega) ⟨N, by rw [cl_b]; exact hM, k0, rfl⟩
  · rintro i a hi ⟨N1, hM, k1, rfl⟩ k hk
    show GoM N0 (fM_clear_101b 0 k N1 (lN P) (acc S P Q i) (nI i)) _ _
    generalize hh : Z 2 (S 17 0 0) 0 = h at *
    obtain ⟨o1, o2, o3, o4, o5, o6⟩ := hO i hi
    have hi' : i < 40 := by omega
    obtain ⟨b1, b2, b3⟩ := prod_b (Q := Q) ok hi hP
    have hord := hM.2.2.1 i (by rw [hcl i h 18 (by decide) (by decide)]; exact hi)
    rw [hcl i h 19 (by decide) (by decide), hcl i h 20 (by decide) (by decide), hcl i h 21 (by decide) (by decide), hcl i h 22 (by decide) (by decide)] at hord
    obtain ⟨m1, m2, m3, m4⟩ := hord
    have h17 : qz_gi N1 7 0 17 = nI (S 18 0 0) := by rw [rM18 hM, hcl i h 18 (by decide) (by decide)]
    have m5 : qz_gl N1 39 0 i = lN (prt S Q i) := by
      have := hM.2.2.2 i (by rw [cl_f (by decide) (by decide), h24]; exact hi)
      rw [cl_f (by decide) (by decide), h25 i hi] at this
      exact this
    have ix0 : ¬ (nI i < 0 ∨ 40 ≤ (nI i).toNatClampNeg) := nI_ok (n := 40) hi' (by decide)
    have ix1 : ¬ (nI i < 0 ∨ 40 ≤ i) := fun z => z.elim (nI_pos (by omega)) (by omega)
    have r16 : ∀ N2 Z2, RM N2 Z2 → Z2 16 = S 16 → qz_gi N2 7 0 15 = nI (S 16 0 0) := fun N2 Z2 h e => by rw [rM16 h, e]
    have r17 : ∀ N2 Z2, RM N2 Z2 → Z2 17 = S 17 → qz_gi N2 7 0 16 = nI (S 17 0 0) := fun N2 Z2 h e => by rw [rM17 h, e]
    unfold fM_clear_101b fM_clear_238
    rw [h17, ifc (ix_le (by omega) (by omega)), if_neg (by omega), if_neg ix0, nI_tc (by omega), m5, qz_let_eq, if_neg ix1, m1, qz_let_eq, if_neg ix1, m2, ifc (ix_z (by omega)), lN_mul, l_k]
    by_cases c1 : S 20 i 0 = 0
    · rw [if_pos c1, l_div (by omega) (by decide) (by decide), r17 _ _ hM (hcl i h 17 (by decide) (by decide))]
      have eA : gA S Q i = S 21 i 0 - prt S Q i := by unfold gA; rw [if_pos c1]
      have eB : gB S P Q i = prt S Q i * P / 1000 := by unfold gB; rw [if_pos c1]; rfl
      have ea : acc S P Q (i + 1) = acc S P Q i - lN (prt S Q i * P / 1000) := by rw [acc_s, if_pos c1]; rfl
      refine GoM.eq (M_giveX hM o1 tB (lN_add _ _)) ?_
      have hM2 := wM0 hM (S 19 i 0) (S 17 0 0) (clS S Z P Q i h 0 (S 19 i 0) (S 17 0 0) + prt S Q i * P / 1000) o1 tB
      rw [if_neg ix1]
      show GoM N0 (Option.bind (fM_give 0 (nI (S 19 i 0)) (qz_gi (qz_sl N1 22 0 (4 * S 19 i 0 + S 17 0 0) (lN (clS S Z P Q i h 0 (S 19 i 0) (S 17 0 0) + prt S Q i * P / 1000))) 7 0 15) (qz_gl (qz_sl N1 22 0 (4 * S 19 i 0 + S 17 0 0) (lN (clS S Z P Q i h 0 (S 19 i 0) (S 17 0 0) + prt S Q i * P / 1000))) 37 0 i - lN (prt S Q i)) (qz_sl N1 22 0 (4 * S 19 i 0 + S 17 0 0) (lN (clS S Z P Q i h 0 (S 19 i 0) (S 17 0 0) + prt S Q i * P / 1000)))) _) _ _
      rw [r16 _ _ hM2 (by rw [u3_f (by decide)]; exact hcl i h 16 (by decide) (by decide)), qz_gl_sl, if_neg (by omega), m3, lN_sub (prt_le S Q i)]
      refine GoM.call (M_give hM2 (w := clS S Z P Q i h 0 (S 19 i 0) (S 16 0 0) + (S 21 i 0 - prt S Q i)) o1 tA (by rw [u3_j tn, lN_add])) (k1.tr (KC.sl (by decide))) (fun N3 hM k3 => ?_)
      rw [cl_s' o1 rfl tA tB tn eA eB] at hM
      rw [qz_let_eq, qz_let_eq, nI_p1]
      refine hk _ ⟨N3, hM, k3, ?_⟩
      rw [ea]
    · rw [if_neg c1]
      have pl := paid_le ok hi hP (hF.2 i hi) c1
      have eh : hl (S 20) (S 21) (S 22) i = (S 21 i 0 * S 22 i 0 + 999) / 1000 := by unfold hl; rw [if_neg c1]
      rw [eh] at pl
      have pl : (prt S Q i * P + 999) / 1000 ≤ (S 21 i 0 * S 22 i 0 + 999) / 1000 := pl
      have eA : gA S Q i = prt S Q i := by unfold gA; rw [if_neg c1]
      have eB : gB S P Q i = (S 21 i 0 * S 22 i 0 + 999) / 1000 - (prt S Q i * P + 999) / 1000 := by unfold gB; rw [if_neg c1, eh]; rfl
      have ea : acc S P Q (i + 1) = acc S P Q i + lN ((prt S Q i * P + 999) / 1000) := by rw [acc_s, if_neg c1]; rfl
      have eu : fM_up (lN (prt S Q i * P)) (lN 1000) N1 = some (lN ((prt S Q i * P + 999) / 1000), N1) := by
        unfold fM_up
        rw [if_neg (by decide), l_1, lN_add, lN_sub (by omega), l_div (by omega) (by decide) (by decide), show prt S Q i * P + 1000 - 1 = prt S Q i * P + 999 by omega]
      refine GoM.eq eu ?_
      show GoM N0 (Option.bind (fM_give 0 (nI (S 19 i 0)) (qz_gi N1 7 0 15) (lN (prt S Q i)) N1) _) _ _
      rw [r16 _ _ hM (hcl i h 16 (by decide) (by decide))]
      refine GoM.eq (M_giveX hM o1 tA (lN_add _ _)) ?_
      have hM2 := wM0 hM (S 19 i 0) (S 16 0 0) (clS S Z P Q i h 0 (S 19 i 0) (S 16 0 0) + prt S Q i) o1 tA
      have eq2 : qz_gi (qz_sl N1 22 0 (4 * S 19 i 0 + S 16 0 0) (lN (clS S Z P Q i h 0 (S 19 i 0) (S 16 0 0) + prt S Q i))) 36 0 i = nI (S 20 i 0) := by rw [qz_gi_sl]; exact m2
      have eq3 : qz_gl (qz_sl N1 22 0 (4 * S 19 i 0 + S 16 0 0) (lN (clS S Z P Q i h 0 (S 19 i 0) (S 16 0 0) + prt S Q i))) 37 0 i = lN (S 21 i 0) := by rw [qz_gl_sl, if_neg (by omega)]; exact m3
      have eq4 : qz_gl (qz_sl N1 22 0 (4 * S 19 i 0 + S 16 0 0) (lN (clS S Z P Q i h 0 (S 19 i 0) (S 16 0 0) + prt S Q i))) 38 0 i = lN (S 22 i 0) := by rw [qz_gl_sl, if_neg (by omega)]; exact m4
      have ehd := M_heldX hi' o2 o4 o6 eq2 eq3 eq4
      rw [if_neg c1] at ehd
      refine GoM.eq ehd ?_
      show GoM N0 (Option.bind (fM_give 0 (nI (S 19 i 0)) (qz_gi (qz_sl N1 22 0 (4 * S 19 i 0 + S 16 0 0) (lN (clS S Z P Q i h 0 (S 19 i 0) (S 16 0 0) + prt S Q i))) 7 0 16) (lN ((S 21 i 0 * S 22 i 0 + 999) / 1000) - lN ((prt S Q i * P + 999) / 1000)) (qz_sl N1 22 0 (4 * S 19 i 0 + S 16 0 0) (lN (clS S Z P Q i h 0 (S 19 i 0) (S 16 0 0) + prt S Q i)))) _) _ _
      rw [r17 _ _ hM2 (by rw [u3_f (by decide)]; exact hcl i h 17 (by decide) (by decide)), lN_sub pl]
      refine GoM.call (M_give hM2 (w := clS S Z P Q i h 0 (S 19 i 0) (S 17 0 0) + ((S 21 i 0 * S 22 i 0 + 999) / 1000 - (prt S Q i * P + 999) / 1000)) o1 tB (by rw [u3_j (Ne.symm tn), lN_add])) (k1.tr (KC.sl (by decide))) (fun N3 hM k3 => ?_)
      rw [cl_s o1 rfl tA tB tn eA eB] at hM
      rw [qz_let_eq, qz_let_eq, nI_p1]
      refine hk _ ⟨N3, hM, k3, ?_⟩
      rw [ea]
  · rintro a ⟨N1, hM, k1, rfl⟩ k
    show GoM N0 (fM_clear_101b 0 k N1 (lN P) (acc S P Q (S 18 0 0)) (nI (S 18 0 0))) _ _
    have h17 : qz_gi N1 7 0 17 = nI (S 18 0 0) := by rw [rM18 hM, hcl _ _ 18 (by decide) (by decide)]
    have h16 : qz_gi N1 7 0 16 = nI (S 17 0 0) := by rw [rM17 hM, hcl _ _ 17 (by decide) (by decide)]
    have e2 : Z 2 = S 2 := hZ 2 (by decide) (by decide) (by decide)
    unfold fM_clear_101b
    rw [h17, ifc (ix_le (by omega) (by omega)), if_pos (Nat.le_refl _), h16, if_neg (nI_ok (n := 4) tB (by decide)), if_neg (nI_ok (n := 4) tB (by decide)), nI_tc (by omega), rM2 hM _ tB, cl_2, e2, ← hH]
    refine GoM.wr (wM2 hM (S 17 0 0) H tB) (k1.tr (KC.sl (by decide))) (fun N2 hM k2 => ?_)
    rw [cl_h] at hM
    exact GoM.wr hM.w18 (k2.tr (KC.si (by decide))) (fun N3 hM k3 => GoM.ret hM k3)
theorem sg_one {q X : Nat} {n : Nat} (hq : q < n) : sg (fun p => if q = p then X else 0) n = X := by
  induction n with
  | zero => omega
  | succ n ih =>
    rw [sg_s]
    by_cases c : q = n
    · rw [if_pos c, sg_0 (fun i hi => if_neg (by omega)), Nat.zero_add]
    · rw [if_neg c, ih (by omega)]; rfl
theorem sg_gn {S : St} {P Q t : Nat} : ∀ n, (∀ k, k < n → S 19 k 0 < 6) → sg (fun p => sg (gn S P Q p t) n) 6 = sg (fun k => if t = S 16 0 0 then gA S Q k else if t = S 17 0 0 then gB S P Q k else 0) n := by
  intro n
  induction n with
  | zero => intro _; exact sg_0 (fun _ _ => rfl)
  | succ n ih =>
    intro h
    show sg (fun p => sg (gn S P Q p t) n + gn S P Q p t n) 6 = sg (fun k => if t = S 16 0 0 then gA S Q k else if t = S 17 0 0 then gB S P Q k else 0) n + (if t = S 16 0 0 then gA S Q n else if t = S 17 0 0 then gB S P Q n else 0)
    rw [sg_add, ih (fun k hk => h k (by omega))]
    congr 1
    exact sg_one (h n (by omega))
theorem sg_gA {S : St} {Q : Nat} (hs : ∀ k, k < S 18 0 0 → S 20 k 0 ≤ 1) : ∀ n, n ≤ S 18 0 0 → sg (fun k => gA S Q k) n + sg (fun k => if S 20 k 0 = 0 then prt S Q k else 0) n = sg (fun k => if S 20 k 0 = 0 then S 21 k 0 else 0) n + sg (fun k => if S 20 k 0 = 1 then prt S Q k else 0) n := by
  intro n
  induction n with
  | zero => intro _; rfl
  | succ n ih =>
    intro hn
    rw [sg_s, sg_s, sg_s, sg_s]
    have h1 := ih (by omega)
    have h2 := hs n (by omega)
    have h3 := prt_le S Q n
    have : gA S Q n + (if S 20 n 0 = 0 then prt S Q n else 0) = (if S 20 n 0 = 0 then S 21 n 0 else 0) + (if S 20 n 0 = 1 then prt S Q n else 0) := by
      unfold gA
      by_cases c : S 20 n 0 = 0
      · rw [if_pos c, if_pos c, if_pos c, if_neg (by omega)]; omega
      · rw [if_neg c, if_neg c, if_neg c, if_pos (by omega)]; omega
    omega
theorem sg_gB {S : St} {P Q : Nat} (hp : ∀ k, k < S 18 0 0 → S 20 k 0 ≠ 0 → paidV S P Q k ≤ hl (S 20) (S 21) (S 22) k) : ∀ n, n ≤ S 18 0 0 → sg (fun k => gB S P Q k) n + PD S P Q n = sg (fun k => if S 20 k 0 = 0 then 0 else hl (S 20) (S 21) (S 22) k) n + GT S P Q n := by
  intro n
  induction n with
  | zero => intro _; rfl
  | succ n ih =>
    intro hn
    have e1 : GT S P Q (n + 1) = GT S P Q n + if S 20 n 0 = 0 then gotV S P Q n else 0 := rfl
    have e2 : PD S P Q (n + 1) = PD S P Q n + if S 20 n 0 = 0 then 0 else paidV S P Q n := rfl
    rw [sg_s, sg_s, e1, e2]
    have h1 := ih (by omega)
    have : gB S P Q n + (if S 20 n 0 = 0 then 0 else paidV S P Q n) = (if S 20 n 0 = 0 then 0 else hl (S 20) (S 21) (S 22) n) + (if S 20 n 0 = 0 then gotV S P Q n else 0) := by
      unfold gB
      by_cases c : S 20 n 0 = 0
      · rw [if_pos c, if_pos c, if_pos c, if_pos c]; omega
      · have := hp n (by omega) c
        rw [if_neg c, if_neg c, if_neg c, if_neg c]; omega
    omega
theorem GT_b {S : St} {P Q : Nat} : ∀ n, 1000 * GT S P Q n ≤ P * sg (fun k => if S 20 k 0 = 0 then prt S Q k else 0) n := by
  intro n
  induction n with
  | zero => exact Nat.le_refl _
  | succ n ih =>
    have e1 : GT S P Q (n + 1) = GT S P Q n + if S 20 n 0 = 0 then gotV S P Q n else 0 := rfl
    rw [e1, sg_s, Nat.mul_add P]
    have : 1000 * (if S 20 n 0 = 0 then gotV S P Q n else 0) ≤ P * (if S 20 n 0 = 0 then prt S Q n else 0) := by
      unfold gotV
      by_cases c : S 20 n 0 = 0
      · rw [if_pos c, if_pos c, Nat.mul_comm P]; omega
      · rw [if_neg c, if_neg c]; exact Nat.le_refl _
    omega
theorem PD_b {S : St} {P Q : Nat} (hs : ∀ k, k < S 18 0 0 → S 20 k 0 ≤ 1) : ∀ n, n ≤ S 18 0 0 → P * sg (fun k => if S 20 k 0 = 1 then prt S Q k else 0) n ≤ 1000 * PD S P Q n := by
  intro n
  induction n with
  | zero => intro _; exact Nat.le_refl _
  | succ n ih =>
    intro hn
    have e2 : PD S P Q (n + 1) = PD S P Q n + if S 20 n 0 = 0 then 0 else paidV S P Q n := rfl
    rw [e2, sg_s, Nat.mul_add P]
    have h1 := ih (by omega)
    have h2 := hs n (by omega)
    have : P * (if S 20 n 0 = 1 then prt S Q n else 0) ≤ 1000 * (if S 20 n 0 = 0 then 0 else paidV S P Q n) := by
      unfold paidV
      by_cases c : S 20 n 0 = 0
      · rw [if_pos c, if_neg (by omega)]; exact Nat.le_refl _
      · rw [if_neg c, if_pos (by omega), Nat.mul_comm P]; omega
    omega
theorem GT_PD {S : St} {c P Q : Nat} (ok : Ok c S) (hF : FQ S P Q) : GT S P Q (S 18 0 0) ≤ PD S P Q (S 18 0 0) := by
  obtain ⟨-, -, -, h40, -, hO⟩ := ok.2.2.2.1
  have h0 := GT_b (S := S) (P := P) (Q := Q) (S 18 0 0)
  have h1 := PD_b (S := S) (P := P) (Q := Q) (fun k hk => (hO k hk).2.1) (S 18 0 0) (Nat.le_refl _)
  rw [hF.1 0 (by decide)] at h0
  rw [hF.1 1 (by decide)] at h1
  omega
theorem ok_clear {S Z : St} {c P Q : Nat} (ok : Ok c S) (hP : P ≤ 1000000) (hF : FQ S P Q) (hZ : ∀ f, f ≠ 23 → f ≠ 24 → f ≠ 25 → Z f = S f) (h24 : Z 24 0 0 = S 18 0 0) : Ok c (qz_u3 (clS S Z P Q (S 18 0 0) (S 2 (S 17 0 0) 0 + PD S P Q (S 18 0 0) - GT S P Q (S 18 0 0))) 18 0 0 0) := by
  obtain ⟨tA, tB, tn, h40, -, hO⟩ := ok.2.2.2.1
  have gp := GT_PD ok hF
  have sA := sg_gA (S := S) (Q := Q) (fun k hk => (hO k hk).2.1) (S 18 0 0) (Nat.le_refl _)
  have sB := sg_gB (S := S) (P := P) (Q := Q) (fun k hk hb => paid_le ok hk hP (hF.2 k hk) hb) (S 18 0 0) (Nat.le_refl _)
  rw [hF.1 0 (by decide), hF.1 1 (by decide)] at sA
  have sn := fun t => sg_gn (S := S) (P := P) (Q := Q) (t := t) (S 18 0 0) (fun k hk => (hO k hk).1)
  obtain ⟨h1, h2, h3, h4, h5, h6', h7⟩ := ok
  have cl1 : ∀ h f, f ≠ 0 → f ≠ 2 → f ≠ 23 → f ≠ 24 → f ≠ 25 → clS S Z P Q (S 18 0 0) h f = S f := fun h f a b c d e => by rw [cl_f a b, hZ f c d e]
  unfold Ok
  simp (disch := omega) only [u3_f, u3_e, cl1]
  refine ⟨?_, h2, h3, ?_, h5, h6', h7⟩
  · intro t h4t
    obtain ⟨a1, a2⟩ := h1 t h4t
    refine ⟨?_, a2⟩
    have eO : cO (S 16) (S 17) (up2 (S 18) 0 0 0) (S 20) (S 21) (S 22) t = 0 := by unfold cO; rw [up2_s]; rfl
    have eB : cB (clS S Z P Q (S 18 0 0) (S 2 (S 17 0 0) 0 + PD S P Q (S 18 0 0) - GT S P Q (S 18 0 0)) 0) t = cB (S 0) t + sg (fun k => if t = S 16 0 0 then gA S Q k else if t = S 17 0 0 then gB S P Q k else 0) (S 18 0 0) := by
      rw [← sn t]
      unfold cB
      rw [← sg_add]
      refine sg_congr (fun p hp => ?_)
      rw [cl_0 hp h4t, hZ 0 (by decide) (by decide) (by decide)]
    have eH : clS S Z P Q (S 18 0 0) (S 2 (S 17 0 0) 0 + PD S P Q (S 18 0 0) - GT S P Q (S 18 0 0)) 2 t 0 = if t = S 17 0 0 then S 2 (S 17 0 0) 0 + PD S P Q (S 18 0 0) - GT S P Q (S 18 0 0) else S 2 t 0 := by
      by_cases c : t = S 17 0 0
      · rw [if_pos c, c, cl_2]
      · rw [if_neg c]
        unfold clS
        rw [if_neg (by omega), if_neg (by omega), hZ 2 (by decide) (by decide) (by decide)]
    rw [eO, eB, eH]
    by_cases cA : t = S 16 0 0
    · have e : sg (fun k => if t = S 16 0 0 then gA S Q k else if t = S 17 0 0 then gB S P Q k else 0) (S 18 0 0) = sg (fun k => gA S Q k) (S 18 0 0) := sg_congr (fun k _ => if_pos cA)
      have e2 : cO (S 16) (S 17) (S 18) (S 20) (S 21) (S 22) t = sg (fun k => if S 20 k 0 = 0 then S 21 k 0 else 0) (S 18 0 0) := sg_congr (fun k hk => by
        show (if ht (S 16) (S 17) (S 20) k = t then hl (S 20) (S 21) (S 22) k else 0) = (if S 20 k 0 = 0 then S 21 k 0 else 0)
        unfold ht hl
        by_cases d : S 20 k 0 = 0
        · rw [if_pos d, if_pos cA.symm, if_pos d, if_pos d]
        · rw [if_neg d, if_neg (by omega), if_neg d])
      rw [e, if_neg (by omega)]
      omega
    · by_cases cB : t = S 17 0 0
      · have e : sg (fun k => if t = S 16 0 0 then gA S Q k else if t = S 17 0 0 then gB S P Q k else 0) (S 18 0 0) = sg (fun k => gB S P Q k) (S 18 0 0) := sg_congr (fun k _ => by rw [if_neg cA, if_pos cB])
        have e2 : cO (S 16) (S 17) (S 18) (S 20) (S 21) (S 22) t = sg (fun k => if S 20 k 0 = 0 then 0 else hl (S 20) (S 21) (S 22) k) (S 18 0 0) := sg_congr (fun k hk => by
          show (if ht (S 16) (S 17) (S 20) k = t then hl (S 20) (S 21) (S 22) k else 0) = (if S 20 k 0 = 0 then 0 else hl (S 20) (S 21) (S 22) k)
          unfold ht
          by_cases d : S 20 k 0 = 0
          · rw [if_pos d, if_neg (by omega), if_pos d]
          · rw [if_neg d, if_pos cB.symm, if_neg d])
        have e3 : S 2 t 0 = S 2 (S 17 0 0) 0 := by rw [cB]
        rw [e, if_pos cB]
        omega
      · have e : sg (fun k => if t = S 16 0 0 then gA S Q k else if t = S 17 0 0 then gB S P Q k else 0) (S 18 0 0) = 0 := sg_0 (fun k _ => by rw [if_neg cA, if_neg cB])
        have e2 : cO (S 16) (S 17) (S 18) (S 20) (S 21) (S 22) t = 0 := sg_0 (fun k hk => by
          show (if ht (S 16) (S 17) (S 20) k = t then hl (S 20) (S 21) (S 22) k else 0) = 0
          unfold ht
          by_cases d : S 20 k 0 = 0
          · rw [if_pos d, if_neg (by omega)]
          · rw [if_neg d, if_neg (by omega)])
        rw [e, if_neg cB]
        omega
  · unfold O4
    rw [up2_s, cl_f (by decide) (by decide), h24]
    exact ⟨tA, tB, tn, by decide, h40, fun i hi => by omega⟩
theorem op_clear {N : qz_N} {S : St} {c : Nat} (ok : Ok c S) (hC : RC N S) (hM : RM N S) : Alike N (fE_clear 0) (fM_clear 0) (Ok c) := by
  obtain ⟨tA, tB, tn, h40, -, hO⟩ := ok.2.2.2.1
  obtain ⟨P, eP⟩ : ∃ P, P = (bst S (S 18 0 0)).1 := ⟨_, rfl⟩
  obtain ⟨Q, hQ⟩ : ∃ Q, Q = if P = 0 then 0 else lst S P := ⟨_, rfl⟩
  have hP : P ≤ 1000000 := by rw [eP]; exact (bst_b ok _ (Nat.le_refl _)).1
  have hF : FQ S P Q := M_dealt hM ok eP hQ (Pd := fun _ => FQ S P Q) (fun _ _ _ f => f)
  have gp := GT_PD ok hF
  have hH : lN (S 2 (S 17 0 0) 0 + PD S P Q (S 18 0 0) - GT S P Q (S 18 0 0)) = lN (S 2 (S 17 0 0) 0) + acc S P Q (S 18 0 0) := by
    rw [← lN_sub (by omega), ← lN_add, ← acc_sum, ← Int64.add_assoc, Int64.add_sub_cancel]
  obtain ⟨Z, eZ⟩ : ∃ Z, Z = s25 (qz_u3 (qz_u3 S 24 0 0 (S 18 0 0)) 23 0 0 Q) (fun k => if k < S 18 0 0 then prt S Q k else S 25 k 0) := ⟨_, rfl⟩
  have hZ : ∀ f, f ≠ 23 → f ≠ 24 → f ≠ 25 → Z f = S f := fun f a b c => by rw [eZ, s25_f c, u3_f a, u3_f b]
  have h24 : Z 24 0 0 = S 18 0 0 := by rw [eZ, s25_f (by decide), u3_f (by decide), u3_s]
  have h25 : ∀ k, k < S 18 0 0 → Z 25 k 0 = prt S Q k := fun k hk => by
    rw [eZ]
    show (if (25 : Nat) = 25 ∧ (0 : Nat) = 0 then (if k < S 18 0 0 then prt S Q k else S 25 k 0) else _) = _
    rw [if_pos ⟨rfl, rfl⟩, if_pos hk]
  refine Alike.mk' (r := lN P) hM ?_ (fun N1 hM => ?_) (ok_clear ok hP hF hZ h24)
  · unfold fE_clear
    refine GoC.eq (E_best hC ok) ?_
    rw [← eP]
    refine GoC.call (E_dealAt hC ok hP hQ) KM.rf (fun N1 hC k1 => ?_)
    rw [s25_c (by decide), s25_c (by decide), u3_c (by omega), ← eZ] at hC
    exact GoC.tail (E_settle ok hP hF hC hZ h25 hH) k1
  · exact M_dealt hM ok eP hQ (Pd := fun m => GoM N1 m (lN P) (qz_u3 (clS S Z P Q (S 18 0 0) (S 2 (S 17 0 0) 0 + PD S P Q (S 18 0 0) - GT S P Q (S 18 0 0))) 18 0 0 0)) (fun N2 hM k2 _ => M_settle ok hP hF (eZ ▸ hM) hZ h24 h25 hH k2)
