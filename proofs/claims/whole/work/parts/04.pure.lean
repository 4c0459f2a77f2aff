/-! BYTES AS NUMBERS: c below 256 is a byte, 999 is 'none there' (at answers -2) -/
def b2 (b : Bool) : Int32 := if b then 1 else 0
theorem b2_ok (b : Bool) : narrow .boolean (.int (b2 b)) = .int (b2 b) := by cases b <;> rfl
theorem b2_0 (b : Bool) : b2 b = 0 ↔ b = false := by cases b <;> decide
theorem b2_1 (b : Bool) : b2 b = 1 ↔ b = true := by cases b <;> decide
def cI (c : Nat) : Int32 := if c < 256 then nI c else -2
theorem cI_lo {c : Nat} (h : c < 256) : cI c = nI c := if_pos h
theorem cI_hi {c : Nat} (h : 256 ≤ c) : cI c = -2 := if_neg (by omega)
theorem nI_neg2 {k : Nat} (h : k < 2 ^ 31) : ¬ (-2 : Int32) = nI k := by
  intro e
  have h1 := congrArg Int32.toInt e
  rw [nI_toInt h] at h1
  have : (-2 : Int32).toInt = -2 := by decide
  omega
theorem nI_neg2_lt {k : Nat} (h : k < 2 ^ 31) : (-2 : Int32) < nI k := by
  rw [Int32.lt_iff_toInt_lt, nI_toInt h]
  have : (-2 : Int32).toInt = -2 := by decide
  omega
theorem nI_neg2_nlt {k : Nat} (h : k < 2 ^ 31) : ¬ nI k < (-2 : Int32) := by
  rw [Int32.lt_iff_toInt_lt, nI_toInt h]
  have : (-2 : Int32).toInt = -2 := by decide
  omega
theorem cI_eq {c k : Nat} (hk : k < 256) : cI c = nI k ↔ c = k := by
  by_cases h : c < 256
  · rw [cI_lo h, nI_eq (by omega) (by omega)]
  · rw [cI_hi (by omega)]
    constructor
    · intro e; exact absurd e (nI_neg2 (by omega))
    · intro e; omega
theorem cI_lt {c k : Nat} (hk : k ≤ 256) : cI c < nI k ↔ (c < k ∨ 256 ≤ c) := by
  by_cases h : c < 256
  · rw [cI_lo h, nI_ltI (by omega) (by omega)]; omega
  · rw [cI_hi (by omega)]
    constructor
    · intro _; omega
    · intro _; exact nI_neg2_lt (by omega)
theorem cI_gt {c k : Nat} (hk : k ≤ 256) : nI k < cI c ↔ (k < c ∧ c < 256) := by
  by_cases h : c < 256
  · rw [cI_lo h, nI_ltI (by omega) (by omega)]; omega
  · rw [cI_hi (by omega)]
    constructor
    · intro e; exact absurd e (nI_neg2_nlt (by omega))
    · intro _; omega
def isW (c : Nat) : Bool := c == 32 || c == 9
def isS (c : Nat) : Bool := decide (97 ≤ c) && decide (c ≤ 122)
def isG (c : Nat) : Bool := decide (65 ≤ c) && decide (c ≤ 90)
def isD (c : Nat) : Bool := decide (48 ≤ c) && decide (c ≤ 57)
def sml (c : Nat) : Nat := if isG c then c + 32 else c
/-- a row of bytes as a list; its byte j, or 999 -/
def ch (L : List Nat) (j : Nat) : Nat := L.getD j 999
def okL (L : List Nat) : Prop := ∀ c ∈ L, c < 256
theorem ch_lt {L : List Nat} (h : okL L) {j : Nat} (hj : j < L.length) : ch L j < 256 := by
  unfold ch
  rw [List.getD_eq_getElem?_getD, List.getElem?_eq_getElem hj]
  exact h _ (List.getElem_mem hj)
theorem ch_ge {L : List Nat} {j : Nat} (hj : L.length ≤ j) : ch L j = 999 := by
  unfold ch
  rw [List.getD_eq_getElem?_getD, List.getElem?_eq_none hj]
  rfl
/-- the array a holds the bytes L from its beginning -/
def rdb (L : List Nat) (a : Nat → Int32) : Prop := okL L ∧ ∀ j, j < L.length → a j = sb_b (ch L j)
theorem sb_nI {c : Nat} (h : c < 256) : sb_b c &&& 255 = nI c := (sb_byte c h).1
theorem rdb_nil (a : Nat → Int32) : rdb [] a := ⟨fun c h => absurd h List.not_mem_nil, fun j h => absurd h (Nat.not_lt_zero j)⟩
theorem rdb_at {L : List Nat} {a : Nat → Int32} (h : rdb L a) {j : Nat} (hj : j < L.length) : a j &&& 255 = nI (ch L j) := by
  rw [h.2 j hj]
  exact sb_nI (ch_lt h.1 hj)
theorem ch_app_lo {L M : List Nat} {j : Nat} (h : j < L.length) : ch (L ++ M) j = ch L j := by
  unfold ch
  rw [List.getD_eq_getElem?_getD, List.getD_eq_getElem?_getD, List.getElem?_append_left h]
theorem ch_app_hi {L M : List Nat} {j : Nat} (h : L.length ≤ j) : ch (L ++ M) j = ch M (j - L.length) := by
  unfold ch
  rw [List.getD_eq_getElem?_getD, List.getD_eq_getElem?_getD, List.getElem?_append_right h]
theorem okL_app {L M : List Nat} (h : okL L) (h2 : okL M) : okL (L ++ M) := fun c hc => (List.mem_append.mp hc).elim (h c) (h2 c)
theorem rdb_push {L : List Nat} {a : Nat → Int32} (h : rdb L a) {c : Nat} (hc : c < 256) {x : Int32} (hx : x = sb_b c) : rdb (L ++ [c]) (upd a L.length x) := by
  refine ⟨okL_app h.1 (fun d hd => by rw [List.mem_singleton.mp hd]; exact hc), fun j hj => ?_⟩
  rw [List.length_append, List.length_singleton] at hj
  by_cases e : j = L.length
  · subst e
    rw [pk_us, hx, ch_app_hi (Nat.le_refl _), Nat.sub_self]
    rfl
  · rw [pk_un e, ch_app_lo (by omega)]
    exact h.2 j (by omega)
theorem rdb_take {L : List Nat} {a : Nat → Int32} (h : rdb L a) (n : Nat) : rdb (L.take n) a := by
  refine ⟨fun c hc => h.1 c (List.mem_of_mem_take hc), fun j hj => ?_⟩
  rw [List.length_take] at hj
  rw [h.2 j (by omega)]
  unfold ch
  rw [List.getD_eq_getElem?_getD, List.getD_eq_getElem?_getD, List.getElem?_take, if_pos (by omega)]
/-- what is left of an int in a byte, by the int's lowest eight bits -/
theorem byte_of (x : Int32) : x.toInt8.toInt32 = sb_b (x.toBitVec.toNat % 256) := by
  unfold sb_b
  congr 1
  apply Int8.toBitVec_inj.mp
  apply BitVec.eq_of_toNat_eq
  show (x.toBitVec.signExtend 8).toNat = ((nI (x.toBitVec.toNat % 256)).toBitVec.signExtend 8).toNat
  rw [BitVec.signExtend_eq_setWidth_of_le _ (by omega), BitVec.signExtend_eq_setWidth_of_le _ (by omega), BitVec.toNat_setWidth, BitVec.toNat_setWidth, pk_tn (by omega)]
  omega
theorem byte_nI {c : Nat} (h : c < 2 ^ 32) : (nI c).toInt8.toInt32 = sb_b (c % 256) := by
  rw [byte_of, pk_tn h]
theorem byte_sb {c : Nat} (h : c < 256) : (sb_b c).toInt8.toInt32 = sb_b c := by
  have h2 : ∀ c, c < 256 → (sb_b c).toInt8.toInt32 = sb_b c := by decide +kernel
  exact h2 c h
