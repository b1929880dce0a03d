def rq_0 : String := "ExactCurves"
def tq_0 : u_T := fun k => match k with
  | 0 => ("ExactCurves", "purses", "LExactCurves$Purses;", true)
  | 1 => ("ExactCurves", "pools", "[LExactCurves$Pool;", true)
  | 2 => ("ExactCurves", "marks", "[LExactCurves$Mark;", true)
  | 3 => ("ExactCurves", "orders", "LExactCurves$Batch;", true)
  | 4 => ("ExactCurves", "vaults", "[LExactCurves$Vault;", true)
  | 5 => ("ExactCurves", "loans", "[LExactCurves$Loan;", true)
  | 6 => ("ExactCurves", "poolCount", "I", false)
  | _ => ("ExactCurves", "clock", "I", false)
def fq_0 : Nat → FieldType := fun k => match k with
  | 0 => .object "ExactCurves$Purses"
  | 1 => .array (.object "ExactCurves$Pool")
  | 2 => .array (.object "ExactCurves$Mark")
  | 3 => .object "ExactCurves$Batch"
  | 4 => .array (.object "ExactCurves$Vault")
  | 5 => .array (.object "ExactCurves$Loan")
  | 6 => .int
  | _ => .int
theorem nq_0 : ∀ a, a < 8 → ∀ b, b < 8 → a ≠ b → (tq_0 a).2.1 ≠ (tq_0 b).2.1 := by decide +kernel
theorem yq_0 : ∀ k, k < 8 → parseFieldDescriptor (tq_0 k).2.2.1 = some (fq_0 k) := by decide +kernel
def rq_1 : String := "ExactCurves$Purses"
def tq_1 : u_T := fun k => match k with
  | 0 => ("ExactCurves$Purses", "amounts", "[J", true)
  | 1 => ("ExactCurves$Purses", "minted", "[J", true)
  | _ => ("ExactCurves$Purses", "kept", "[J", true)
def fq_1 : Nat → FieldType := fun k => match k with
  | 0 => .array .long
  | 1 => .array .long
  | _ => .array .long
theorem nq_1 : ∀ a, a < 3 → ∀ b, b < 3 → a ≠ b → (tq_1 a).2.1 ≠ (tq_1 b).2.1 := by decide +kernel
theorem yq_1 : ∀ k, k < 3 → parseFieldDescriptor (tq_1 k).2.2.1 = some (fq_1 k) := by decide +kernel
def rq_2 : String := "ExactCurves$Pool"
def tq_2 : u_T := fun k => match k with
  | 0 => ("ExactCurves$Pool", "sharesOf", "[J", true)
  | 1 => ("ExactCurves$Pool", "one", "I", false)
  | 2 => ("ExactCurves$Pool", "two", "I", false)
  | 3 => ("ExactCurves$Pool", "kind", "I", false)
  | 4 => ("ExactCurves$Pool", "fee", "I", false)
  | 5 => ("ExactCurves$Pool", "x", "J", false)
  | 6 => ("ExactCurves$Pool", "y", "J", false)
  | 7 => ("ExactCurves$Pool", "shares", "J", false)
  | 8 => ("ExactCurves$Pool", "tally", "J", false)
  | _ => ("ExactCurves$Pool", "age", "J", false)
def fq_2 : Nat → FieldType := fun k => match k with
  | 0 => .array .long
  | 1 => .int
  | 2 => .int
  | 3 => .int
  | 4 => .int
  | 5 => .long
  | 6 => .long
  | 7 => .long
  | 8 => .long
  | _ => .long
theorem nq_2 : ∀ a, a < 10 → ∀ b, b < 10 → a ≠ b → (tq_2 a).2.1 ≠ (tq_2 b).2.1 := by decide +kernel
theorem yq_2 : ∀ k, k < 10 → parseFieldDescriptor (tq_2 k).2.2.1 = some (fq_2 k) := by decide +kernel
def rq_3 : String := "ExactCurves$Mark"
def tq_3 : u_T := fun k => match k with
  | 0 => ("ExactCurves$Mark", "isSet", "Z", false)
  | 1 => ("ExactCurves$Mark", "poolNumber", "I", false)
  | 2 => ("ExactCurves$Mark", "tally", "J", false)
  | _ => ("ExactCurves$Mark", "age", "J", false)
def fq_3 : Nat → FieldType := fun k => match k with
  | 0 => .boolean
  | 1 => .int
  | 2 => .long
  | _ => .long
theorem nq_3 : ∀ a, a < 4 → ∀ b, b < 4 → a ≠ b → (tq_3 a).2.1 ≠ (tq_3 b).2.1 := by decide +kernel
theorem yq_3 : ∀ k, k < 4 → parseFieldDescriptor (tq_3 k).2.2.1 = some (fq_3 k) := by decide +kernel
def rq_4 : String := "ExactCurves$Batch"
def tq_4 : u_T := fun k => match k with
  | 0 => ("ExactCurves$Batch", "players", "[I", true)
  | 1 => ("ExactCurves$Batch", "buys", "[Z", true)
  | 2 => ("ExactCurves$Batch", "amounts", "[J", true)
  | 3 => ("ExactCurves$Batch", "limits", "[J", true)
  | 4 => ("ExactCurves$Batch", "parts", "[J", true)
  | 5 => ("ExactCurves$Batch", "tokenA", "I", false)
  | 6 => ("ExactCurves$Batch", "tokenB", "I", false)
  | 7 => ("ExactCurves$Batch", "size", "I", false)
  | 8 => ("ExactCurves$Batch", "latestSize", "I", false)
  | _ => ("ExactCurves$Batch", "latestDealt", "J", false)
def fq_4 : Nat → FieldType := fun k => match k with
  | 0 => .array .int
  | 1 => .array .boolean
  | 2 => .array .long
  | 3 => .array .long
  | 4 => .array .long
  | 5 => .int
  | 6 => .int
  | 7 => .int
  | 8 => .int
  | _ => .long
theorem nq_4 : ∀ a, a < 10 → ∀ b, b < 10 → a ≠ b → (tq_4 a).2.1 ≠ (tq_4 b).2.1 := by decide +kernel
theorem yq_4 : ∀ k, k < 10 → parseFieldDescriptor (tq_4 k).2.2.1 = some (fq_4 k) := by decide +kernel
def rq_5 : String := "ExactCurves$Vault"
def tq_5 : u_T := fun k => match k with
  | 0 => ("ExactCurves$Vault", "partsOf", "[J", true)
  | 1 => ("ExactCurves$Vault", "has", "J", false)
  | 2 => ("ExactCurves$Vault", "parts", "J", false)
  | 3 => ("ExactCurves$Vault", "rate", "J", false)
  | _ => ("ExactCurves$Vault", "index", "J", false)
def fq_5 : Nat → FieldType := fun k => match k with
  | 0 => .array .long
  | 1 => .long
  | 2 => .long
  | 3 => .long
  | _ => .long
theorem nq_5 : ∀ a, a < 5 → ∀ b, b < 5 → a ≠ b → (tq_5 a).2.1 ≠ (tq_5 b).2.1 := by decide +kernel
theorem yq_5 : ∀ k, k < 5 → parseFieldDescriptor (tq_5 k).2.2.1 = some (fq_5 k) := by decide +kernel
def rq_6 : String := "ExactCurves$Loan"
def tq_6 : u_T := fun k => match k with
  | 0 => ("ExactCurves$Loan", "isOpen", "Z", false)
  | 1 => ("ExactCurves$Loan", "player", "I", false)
  | 2 => ("ExactCurves$Loan", "poolNumber", "I", false)
  | 3 => ("ExactCurves$Loan", "side", "I", false)
  | 4 => ("ExactCurves$Loan", "cover", "J", false)
  | _ => ("ExactCurves$Loan", "units", "J", false)
def fq_6 : Nat → FieldType := fun k => match k with
  | 0 => .boolean
  | 1 => .int
  | 2 => .int
  | 3 => .int
  | 4 => .long
  | _ => .long
theorem nq_6 : ∀ a, a < 6 → ∀ b, b < 6 → a ≠ b → (tq_6 a).2.1 ≠ (tq_6 b).2.1 := by decide +kernel
theorem yq_6 : ∀ k, k < 6 → parseFieldDescriptor (tq_6 k).2.2.1 = some (fq_6 k) := by decide +kernel
def rq_7 : String := "ExactCurvesModel"
def tq_7 : u_T := fun k => match k with
  | 0 => ("ExactCurvesModel", "balances", "[J", true)
  | 1 => ("ExactCurvesModel", "houses", "[J", true)
  | 2 => ("ExactCurvesModel", "clock", "I", false)
  | 3 => ("ExactCurvesModel", "pools", "I", false)
  | 4 => ("ExactCurvesModel", "poolTokens", "[I", true)
  | 5 => ("ExactCurvesModel", "kinds", "[I", true)
  | 6 => ("ExactCurvesModel", "fees", "[I", true)
  | 7 => ("ExactCurvesModel", "reserves", "[J", true)
  | 8 => ("ExactCurvesModel", "allShares", "[J", true)
  | 9 => ("ExactCurvesModel", "shares", "[J", true)
  | 10 => ("ExactCurvesModel", "tallies", "[J", true)
  | 11 => ("ExactCurvesModel", "ages", "[J", true)
  | 12 => ("ExactCurvesModel", "markPools", "[I", true)
  | 13 => ("ExactCurvesModel", "markTallies", "[J", true)
  | 14 => ("ExactCurvesModel", "markAges", "[J", true)
  | 15 => ("ExactCurvesModel", "tokenA", "I", false)
  | 16 => ("ExactCurvesModel", "tokenB", "I", false)
  | 17 => ("ExactCurvesModel", "orders", "I", false)
  | 18 => ("ExactCurvesModel", "orderPlayers", "[I", true)
  | 19 => ("ExactCurvesModel", "buys", "[Z", true)
  | 20 => ("ExactCurvesModel", "amounts", "[J", true)
  | 21 => ("ExactCurvesModel", "limits", "[J", true)
  | 22 => ("ExactCurvesModel", "allDealt", "J", false)
  | 23 => ("ExactCurvesModel", "ordersThen", "I", false)
  | 24 => ("ExactCurvesModel", "dealts", "[J", true)
  | 25 => ("ExactCurvesModel", "taken", "[Z", true)
  | 26 => ("ExactCurvesModel", "vaults", "[J", true)
  | 27 => ("ExactCurvesModel", "allParts", "[J", true)
  | 28 => ("ExactCurvesModel", "parts", "[J", true)
  | 29 => ("ExactCurvesModel", "indexes", "[J", true)
  | 30 => ("ExactCurvesModel", "rates", "[J", true)
  | 31 => ("ExactCurvesModel", "isLoan", "[Z", true)
  | 32 => ("ExactCurvesModel", "loanPlayers", "[I", true)
  | 33 => ("ExactCurvesModel", "loanPools", "[I", true)
  | 34 => ("ExactCurvesModel", "loanSides", "[I", true)
  | 35 => ("ExactCurvesModel", "covers", "[J", true)
  | 36 => ("ExactCurvesModel", "units", "[J", true)
  | 37 => ("ExactCurvesModel", "big", "[J", true)
  | 38 => ("ExactCurvesModel", "other", "[J", true)
  | 39 => ("ExactCurvesModel", "sum", "[J", true)
  | 40 => ("ExactCurvesModel", "piece", "[J", true)
  | _ => ("ExactCurvesModel", "rest", "J", false)
def fq_7 : Nat → FieldType := fun k => match k with
  | 0 => .array .long
  | 1 => .array .long
  | 2 => .int
  | 3 => .int
  | 4 => .array .int
  | 5 => .array .int
  | 6 => .array .int
  | 7 => .array .long
  | 8 => .array .long
  | 9 => .array .long
  | 10 => .array .long
  | 11 => .array .long
  | 12 => .array .int
  | 13 => .array .long
  | 14 => .array .long
  | 15 => .int
  | 16 => .int
  | 17 => .int
  | 18 => .array .int
  | 19 => .array .boolean
  | 20 => .array .long
  | 21 => .array .long
  | 22 => .long
  | 23 => .int
  | 24 => .array .long
  | 25 => .array .boolean
  | 26 => .array .long
  | 27 => .array .long
  | 28 => .array .long
  | 29 => .array .long
  | 30 => .array .long
  | 31 => .array .boolean
  | 32 => .array .int
  | 33 => .array .int
  | 34 => .array .int
  | 35 => .array .long
  | 36 => .array .long
  | 37 => .array .long
  | 38 => .array .long
  | 39 => .array .long
  | 40 => .array .long
  | _ => .long
theorem nq_7 : ∀ a, a < 42 → ∀ b, b < 42 → a ≠ b → (tq_7 a).2.1 ≠ (tq_7 b).2.1 := by decide +kernel
theorem yq_7 : ∀ k, k < 42 → parseFieldDescriptor (tq_7 k).2.2.1 = some (fq_7 k) := by decide +kernel
abbrev qz_Y : Type := Nat × ((Nat × List (FieldType × Nat)) ⊕ (Nat × FieldType × Nat))
def qz_cl : List vw_C := [(rq_0, tq_0, 8), (rq_1, tq_1, 3), (rq_2, tq_2, 10), (rq_3, tq_3, 4), (rq_4, tq_4, 10), (rq_5, tq_5, 5), (rq_6, tq_6, 6), (rq_7, tq_7, 42)]
def sq_0 : List (FieldType × Nat) := [(.object "ExactCurves$Purses", 1), (.array (.object "ExactCurves$Pool"), 8), (.array (.object "ExactCurves$Mark"), 9), (.object "ExactCurves$Batch", 4), (.array (.object "ExactCurves$Vault"), 10), (.array (.object "ExactCurves$Loan"), 11), (.int, 0), (.int, 0)]
def sq_1 : List (FieldType × Nat) := [(.array .long, 12), (.array .long, 13), (.array .long, 14)]
def sq_2 : List (FieldType × Nat) := [(.array .long, 15), (.int, 0), (.int, 0), (.int, 0), (.int, 0), (.long, 0), (.long, 0), (.long, 0), (.long, 0), (.long, 0)]
def sq_3 : List (FieldType × Nat) := [(.boolean, 0), (.int, 0), (.long, 0), (.long, 0)]
def sq_4 : List (FieldType × Nat) := [(.array .int, 16), (.array .boolean, 17), (.array .long, 18), (.array .long, 19), (.array .long, 20), (.int, 0), (.int, 0), (.int, 0), (.int, 0), (.long, 0)]
def sq_5 : List (FieldType × Nat) := [(.array .long, 21), (.long, 0), (.long, 0), (.long, 0), (.long, 0)]
def sq_6 : List (FieldType × Nat) := [(.boolean, 0), (.int, 0), (.int, 0), (.int, 0), (.long, 0), (.long, 0)]
def sq_7 : List (FieldType × Nat) := [(.array .long, 22), (.array .long, 23), (.int, 0), (.int, 0), (.array .int, 24), (.array .int, 25), (.array .int, 26), (.array .long, 27), (.array .long, 28), (.array .long, 29), (.array .long, 30), (.array .long, 31), (.array .int, 32), (.array .long, 33), (.array .long, 34), (.int, 0), (.int, 0), (.int, 0), (.array .int, 35), (.array .boolean, 36), (.array .long, 37), (.array .long, 38), (.long, 0), (.int, 0), (.array .long, 39), (.array .boolean, 40), (.array .long, 41), (.array .long, 42), (.array .long, 43), (.array .long, 44), (.array .long, 45), (.array .boolean, 46), (.array .int, 47), (.array .int, 48), (.array .int, 49), (.array .long, 50), (.array .long, 51), (.array .long, 52), (.array .long, 53), (.array .long, 54), (.array .long, 55), (.long, 0)]
def qz_tb : List qz_Y := [(1, .inl (0, sq_0)), (1, .inl (1, sq_1)), (6, .inl (2, sq_2)), (8, .inl (3, sq_3)), (1, .inl (4, sq_4)), (4, .inl (5, sq_5)), (10, .inl (6, sq_6)), (1, .inl (7, sq_7)), (1, .inr (6, .object "ExactCurves$Pool", 2)), (1, .inr (8, .object "ExactCurves$Mark", 3)), (1, .inr (4, .object "ExactCurves$Vault", 5)), (1, .inr (10, .object "ExactCurves$Loan", 6)), (1, .inr (24, .long, 0)), (1, .inr (4, .long, 0)), (1, .inr (4, .long, 0)), (6, .inr (6, .long, 0)), (1, .inr (40, .int, 0)), (1, .inr (40, .boolean, 0)), (1, .inr (40, .long, 0)), (1, .inr (40, .long, 0)), (1, .inr (40, .long, 0)), (4, .inr (6, .long, 0)), (1, .inr (24, .long, 0)), (1, .inr (4, .long, 0)), (1, .inr (12, .int, 0)), (1, .inr (6, .int, 0)), (1, .inr (6, .int, 0)), (1, .inr (12, .long, 0)), (1, .inr (6, .long, 0)), (1, .inr (36, .long, 0)), (1, .inr (6, .long, 0)), (1, .inr (6, .long, 0)), (1, .inr (8, .int, 0)), (1, .inr (8, .long, 0)), (1, .inr (8, .long, 0)), (1, .inr (40, .int, 0)), (1, .inr (40, .boolean, 0)), (1, .inr (40, .long, 0)), (1, .inr (40, .long, 0)), (1, .inr (40, .long, 0)), (1, .inr (40, .boolean, 0)), (1, .inr (4, .long, 0)), (1, .inr (4, .long, 0)), (1, .inr (24, .long, 0)), (1, .inr (4, .long, 0)), (1, .inr (4, .long, 0)), (1, .inr (10, .boolean, 0)), (1, .inr (10, .int, 0)), (1, .inr (10, .int, 0)), (1, .inr (10, .int, 0)), (1, .inr (10, .long, 0)), (1, .inr (10, .long, 0)), (1, .inr (6, .long, 0)), (1, .inr (6, .long, 0)), (1, .inr (9, .long, 0)), (1, .inr (3, .long, 0))]
def qz_T : List Cond := lw_tbl.filter goodWord
theorem qz_mem {w : Cond} (i : Nat) (h : lw_tbl[i]? = some w) (hg : goodWord w = true) : w ∈ qz_T := List.mem_filter.mpr ⟨List.mem_of_getElem? h, hg⟩
