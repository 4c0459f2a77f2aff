theorem gx_ext {u t : gx_S} (h1 : ∀ a b, gx_i u a b = gx_i t a b) (h2 : ∀ a b, gx_l u a b = gx_l t a b) (h3 : ∀ a b, gx_r u a b = gx_r t a b) (h4 : ∀ a, gx_a u a = gx_a t a) : u = t :=
  Prod.ext (funext fun a => funext fun b => h1 a b) (Prod.ext (funext fun a => funext fun b => h2 a b) (Prod.ext (funext fun a => funext fun b => h3 a b) (funext fun a => h4 a)))
/-- the Bytes object o holds the bytes L -/
def byL (u : gx_S) (o : Nat) (L : List Nat) : Prop := gx_isO o 0 ∧ gx_isA (gx_r u o 0) .byte ∧ gx_len (gx_r u o 0) = 2000 ∧ gx_i u o 1 = nI L.length ∧ L.length ≤ 2000 ∧ rdb L (gx_a u (gx_r u o 0))
def byW (u : gx_S) (o : Nat) (f : Nat → Int32) (n : Nat) : gx_S := gx_pi (gx_pa u (gx_r u o 0) f) o 1 (nI n)
/-- post holds when o holds L, all else as before -/
def byU (u : gx_S) (o : Nat) (L : List Nat) (post : gx_S → Prop) : Prop := ∀ f, rdb L f → post (byW u o f L.length)
theorem byW_r (u : gx_S) (o n x y : Nat) (f : Nat → Int32) : gx_r (byW u o f n) x y = gx_r u x y := rfl
theorem byW_l (u : gx_S) (o n x y : Nat) (f : Nat → Int32) : gx_l (byW u o f n) x y = gx_l u x y := rfl
theorem byW_i (u : gx_S) (o n x y : Nat) (f : Nat → Int32) : gx_i (byW u o f n) x y = if x = o ∧ y = 1 then nI n else gx_i u x y := rfl
theorem byW_a (u : gx_S) (o n x : Nat) (f : Nat → Int32) : gx_a (byW u o f n) x = if x = gx_r u o 0 then f else gx_a u x := rfl
theorem byW_W (u : gx_S) (o n m : Nat) (f g : Nat → Int32) : byW (byW u o f n) o g m = byW u o g m := by
  refine gx_ext (fun a b => ?_) (fun _ _ => rfl) (fun _ _ => rfl) (fun a => ?_)
  · rw [byW_i, byW_i, byW_i]; split <;> rfl
  · rw [byW_a, byW_a, byW_a, byW_r]; split <;> rfl
theorem byW_self {u : gx_S} {o n : Nat} (h : gx_i u o 1 = nI n) : byW u o (gx_a u (gx_r u o 0)) n = u := by
  refine gx_ext (fun a b => ?_) (fun _ _ => rfl) (fun _ _ => rfl) (fun a => ?_)
  · rw [byW_i]; split
    · rename_i e; rw [e.1, e.2, h]
    · rfl
  · rw [byW_a]; split
    · rename_i e; rw [e]
    · rfl
theorem byL_W {u : gx_S} {o : Nat} {L M : List Nat} {f : Nat → Int32} (h : byL u o L) (hf : rdb M f) (hM : M.length ≤ 2000) : byL (byW u o f M.length) o M :=
  ⟨h.1, h.2.1, h.2.2.1, by rw [byW_i, if_pos ⟨rfl, rfl⟩], hM, by rw [byW_a, byW_r, if_pos rfl]; exact hf⟩
theorem byL_ne {u : gx_S} {o p n : Nat} {M : List Nat} {f : Nat → Int32} (h : byL u p M) (hp : p ≠ o) (hr : gx_r u p 0 ≠ gx_r u o 0) : byL (byW u o f n) p M :=
  ⟨h.1, h.2.1, h.2.2.1, by rw [byW_i, if_neg (fun e => hp e.1)]; exact h.2.2.2.1, h.2.2.2.2.1, by rw [byW_a, byW_r, if_neg hr]; exact h.2.2.2.2.2⟩
theorem byU_self {u : gx_S} {o : Nat} {L : List Nat} {post : gx_S → Prop} (hB : byL u o L) (h : byU u o L post) : post u := by
  have := h _ hB.2.2.2.2.2
  rwa [byW_self hB.2.2.2.1] at this
theorem byU_W {u : gx_S} {o n : Nat} {L : List Nat} {f : Nat → Int32} {post : gx_S → Prop} (h : byU u o L post) : byU (byW u o f n) o L post := fun g hg => by
  rw [byW_W]; exact h g hg
/-- its size alone is new: cut -/
theorem byW_pi {u : gx_S} {o n : Nat} : gx_pi u o 1 (nI n) = byW u o (gx_a u (gx_r u o 0)) n := by
  refine gx_ext (fun a b => rfl) (fun _ _ => rfl) (fun _ _ => rfl) (fun a => ?_)
  rw [byW_a]; split
  · rename_i e; rw [e]; rfl
  · rfl
theorem i_X6_isWhite {u : gx_S} {c : Nat} {post : Int32 → gx_S → Prop} (h : post (b2 (isW c)) u) : S_X6_isWhite u (cI c) post := by
  have e1 : cI c = (32 : Int32) ↔ c = 32 := cI_eq (k := 32) (by omega)
  have e2 : cI c = (9 : Int32) ↔ c = 9 := cI_eq (k := 9) (by omega)
  unfold S_X6_isWhite
  rw [e1, e2]
  unfold isW b2 at h
  refine ⟨fun q => ?_, fun q => ⟨fun q2 => ?_, fun q2 => ?_⟩⟩
  · subst q; exact h
  · simpa [q, q2] using h
  · subst q2; exact h
theorem i_X6_isSmallLetter {u : gx_S} {c : Nat} {post : Int32 → gx_S → Prop} (h : post (b2 (isS c)) u) (hc : c < 256 ∨ c = 999) : S_X6_isSmallLetter u (cI c) post := by
  have e1 : cI c < (97 : Int32) ↔ _ := cI_lt (k := 97) (by omega)
  have e2 : (122 : Int32) < cI c ↔ _ := cI_gt (k := 122) (by omega)
  unfold S_X6_isSmallLetter
  rw [e1, e2]
  unfold isS b2 at h
  refine ⟨fun q => ?_, fun q => ⟨fun q2 => ?_, fun q2 => ?_⟩⟩
  · rwa [show (decide (97 ≤ c) && decide (c ≤ 122)) = false by simp; omega] at h
  · rwa [show (decide (97 ≤ c) && decide (c ≤ 122)) = false by simp; omega] at h
  · rwa [show (decide (97 ≤ c) && decide (c ≤ 122)) = true by simp; omega] at h
theorem i_X6_isGreatLetter {u : gx_S} {c : Nat} {post : Int32 → gx_S → Prop} (h : post (b2 (isG c)) u) (hc : c < 256 ∨ c = 999) : S_X6_isGreatLetter u (cI c) post := by
  have e1 : cI c < (65 : Int32) ↔ _ := cI_lt (k := 65) (by omega)
  have e2 : (90 : Int32) < cI c ↔ _ := cI_gt (k := 90) (by omega)
  unfold S_X6_isGreatLetter
  rw [e1, e2]
  unfold isG b2 at h
  refine ⟨fun q => ?_, fun q => ⟨fun q2 => ?_, fun q2 => ?_⟩⟩
  · rwa [show (decide (65 ≤ c) && decide (c ≤ 90)) = false by simp; omega] at h
  · rwa [show (decide (65 ≤ c) && decide (c ≤ 90)) = false by simp; omega] at h
  · rwa [show (decide (65 ≤ c) && decide (c ≤ 90)) = true by simp; omega] at h
theorem i_X6_isDigit {u : gx_S} {c : Nat} {post : Int32 → gx_S → Prop} (h : post (b2 (isD c)) u) (hc : c < 256 ∨ c = 999) : S_X6_isDigit u (cI c) post := by
  have e1 : cI c < (48 : Int32) ↔ _ := cI_lt (k := 48) (by omega)
  have e2 : (57 : Int32) < cI c ↔ _ := cI_gt (k := 57) (by omega)
  unfold S_X6_isDigit
  rw [e1, e2]
  unfold isD b2 at h
  refine ⟨fun q => ?_, fun q => ⟨fun q2 => ?_, fun q2 => ?_⟩⟩
  · rwa [show (decide (48 ≤ c) && decide (c ≤ 57)) = false by simp; omega] at h
  · rwa [show (decide (48 ≤ c) && decide (c ≤ 57)) = false by simp; omega] at h
  · rwa [show (decide (48 ≤ c) && decide (c ≤ 57)) = true by simp; omega] at h
theorem i_X6_small {u : gx_S} {c : Nat} {post : Int32 → gx_S → Prop} (h : post (cI (sml c)) u) (hc : c < 256 ∨ c = 999) : S_X6_small u (cI c) post := by
  unfold S_X6_small
  refine i_X6_isGreatLetter ?_ hc
  unfold sml at h
  refine ⟨fun q => ?_, fun q => ?_⟩
  · rw [b2_0] at q
    rw [q] at h
    exact h
  · rw [b2_0] at q
    have q' : isG c = true := by cases hg : isG c <;> simp_all
    rw [q'] at h
    have hr : 65 ≤ c ∧ c ≤ 90 := by simpa [isG] using q'
    have e : cI c - (65 : Int32) + (97 : Int32) = cI (c + 32) := by
      rw [cI_lo (by omega), cI_lo (by omega), show (65 : Int32) = nI 65 from rfl, show (97 : Int32) = nI 97 from rfl, pk_sub (by omega), nI_add]
      congr 1; omega
    rw [e]; exact h
theorem ch_alt {L : List Nat} (h : okL L) (j : Nat) : ch L j < 256 ∨ ch L j = 999 := by
  by_cases hj : j < L.length
  · exact Or.inl (ch_lt h hj)
  · exact Or.inr (ch_ge (by omega))
theorem i_X0_size {u : gx_S} {o : Nat} {L : List Nat} {post : Int32 → gx_S → Prop} (hB : byL u o L) (h : post (nI L.length) u) : S_X0_size u o post := by
  refine ⟨hB.1, ?_⟩
  rw [hB.2.2.2.1]; exact h
theorem i_X0_at {u : gx_S} {o j : Nat} {L : List Nat} {post : Int32 → gx_S → Prop} (hB : byL u o L) (hj : j < 2 ^ 31) (h : post (cI (ch L j)) u) : S_X0_at u o (nI j) post := by
  obtain ⟨h1, h2, h3, h4, h5, h6⟩ := hB
  refine ⟨fun q => absurd q (nI_pos hj), fun _ => ⟨h1, fun q => ?_, fun q => ⟨h2.r, ?_, ?_⟩⟩⟩
  · rw [h4, nI_leI (by omega) hj] at q
    rw [ch_ge q] at h; exact h
  · rw [h4, nI_leI (by omega) hj] at q
    rw [h3]; exact vp_in_nI (by omega) (by omega)
  · rw [h4, nI_leI (by omega) hj] at q
    rw [nI_clamp hj, show (255 : Int32) = 255 from rfl, rdb_at h6 (by omega)]
    rw [cI_lo (ch_lt h6.1 (by omega))] at h; exact h
theorem i_X0_at_neg {u : gx_S} {o : Nat} {x : Int32} {post : Int32 → gx_S → Prop} (hx : x < 0) (h : post (-2) u) : S_X0_at u o x post :=
  ⟨fun _ => h, fun q => absurd hx q⟩
theorem i_X0_clear {u : gx_S} {o : Nat} {L : List Nat} {post : gx_S → Prop} (hB : byL u o L) (h : byU u o [] post) : S_X0_clear u o post := by
  refine ⟨hB.1, fun u1 e => ?_⟩
  have := h (gx_a u (gx_r u o 0)) (rdb_nil _)
  rw [e]
  rw [show (0 : Int32) = nI 0 from nI_0.symm, byW_pi]
  exact this
theorem i_X0_cutTo {u : gx_S} {o n : Nat} {L : List Nat} {post : gx_S → Prop} (hB : byL u o L) (hn : n < 2 ^ 31) (h : byU u o (L.take n) post) : S_X0_cutTo u o (nI n) post := by
  refine ⟨fun q => absurd q (nI_pos hn), fun _ => ⟨hB.1, fun q => ?_, fun q => ?_⟩⟩
  · rw [hB.2.2.2.1, nI_leI (by have := hB.2.2.2.2.1; omega) hn] at q
    rw [List.take_of_length_le q] at h
    exact byU_self hB h
  · rw [hB.2.2.2.1, nI_leI (by have := hB.2.2.2.2.1; omega) hn] at q
    rintro u2 rfl
    have := h _ (rdb_take hB.2.2.2.2.2 n)
    rw [List.length_take, Nat.min_eq_left (by omega)] at this
    rw [byW_pi]; exact this
theorem i_X0_addx {u : gx_S} {o c : Nat} {L : List Nat} {x : Int32} {post : gx_S → Prop} (hB : byL u o L) (hL : L.length < 2000) (hc : c < 256) (hx : x.toInt8.toInt32 = sb_b c) (h : post (byW u o (upd (gx_a u (gx_r u o 0)) L.length (sb_b c)) (L.length + 1))) : S_X0_add u o x post := by
  obtain ⟨h1, h2, h3, h4, h5, h6⟩ := hB
  refine ⟨h1, h2.r, fun q => ?_, fun _ => ⟨h2, ?_, ?_⟩⟩
  · rw [h3, h4] at q; exact absurd q (nI_ge hL (by omega))
  · rw [h4, h3]; exact vp_in_nI hL (by omega)
  · rintro u5 rfl u6 rfl
    rw [gx_i_pa, hx, byte_sb hc, h4, nI_clamp (by omega), nI_1]
    exact h
theorem i_X0_add {u : gx_S} {o c : Nat} {L : List Nat} {x : Int32} {post : gx_S → Prop} (hB : byL u o L) (hL : L.length < 2000) (hc : c < 256) (hx : x.toInt8.toInt32 = sb_b c) (h : byU u o (L ++ [c]) post) : S_X0_add u o x post := by
  refine i_X0_addx hB hL hc hx ?_
  have := h _ (rdb_push hB.2.2.2.2.2 hc rfl)
  rwa [List.length_append, List.length_singleton] at this
theorem len_push (L : List Nat) (c : Nat) : (L ++ [c]).length = L.length + 1 := by simp
theorem byL_push {u : gx_S} {o c : Nat} {L : List Nat} {f : Nat → Int32} (hB : byL u o L) (hf : rdb (L ++ [c]) f) (hL : L.length < 2000) : byL (byW u o f (L ++ [c]).length) o (L ++ [c]) := byL_W hB hf (by rw [len_push]; omega)
-- addTimes
def S_X0_addTimes (u : gx_S) (v0 : Nat) (v1 v2 : Int32) (post : gx_S → Prop) : Prop := ∃ (L : List Nat) (c k : Nat), byL u v0 L ∧ c < 256 ∧ v1.toInt8.toInt32 = sb_b c ∧ v2 = nI k ∧ L.length + k ≤ 2000 ∧ byU u v0 (L ++ List.replicate k c) post
theorem lp_X0_addTimes {E : gx_E} (X : gx_X E cX0_addTimes 4 RX0 none) (hd : 1 ≤ ex_d E) {post : gx_S → Prop} (hQ : ex_Q E = va_Qv post (gx_B (ex_Z E)) (gx_A (ex_Z E))) {v0 : Nat} {v1 : Int32} {c k : Nat} (hc : c < 256) (hv : v1.toInt8.toInt32 = sb_b c) (hk : k ≤ 2000) :
    ∀ (n i : Nat) (u : gx_S) (L : List Nat), k - i = n → i ≤ k → byL u v0 L → L.length + n ≤ 2000 → byU u v0 (L ++ List.replicate n c) post → J_X0_addTimes_2 E v0 v1 (nI k) (nI i) u := by
  intro n
  induction n with
  | zero =>
    intro i u L hn hi hB hL hp
    refine w_X0_addTimes_2 X hd hQ ⟨fun _ => ?_, fun q => absurd (nI_le (by omega) (by omega)) q⟩
    rw [List.replicate_zero, List.append_nil] at hp
    exact byU_self hB hp
  | succ n ih =>
    intro i u L hn hi hB hL hp
    refine w_X0_addTimes_2 X hd hQ ⟨fun q => absurd q (nI_ge (by omega) (by omega)), fun _ => ⟨hB.1, i_X0_add hB (by omega) hc hv (fun f hf => ?_)⟩⟩
    rintro x3 rfl
    rw [nI_1]
    refine ih (i + 1) _ (L ++ [c]) (by omega) (by omega) (byL_push hB hf (by omega)) (by rw [len_push]; omega) (byU_W ?_)
    rwa [List.append_assoc, List.singleton_append, ← List.replicate_succ]
theorem w_X0_addTimes {E : gx_E} (X : gx_X E cX0_addTimes 4 RX0 none) (hd : 1 ≤ ex_d E) {post : gx_S → Prop} (hQ : ex_Q E = va_Qv post (gx_B (ex_Z E)) (gx_A (ex_Z E))) {u : gx_S} {v0 : Nat} {v1 v2 : Int32} (h : S_X0_addTimes u v0 v1 v2 post) : gx_Wc E 4 0 [(0, .ref (ex_ad E v0)), (1, .int v1), (2, .int v2)] [] u := by
  obtain ⟨L, c, k, hB, hc, hv, rfl, hL, hp⟩ := h
  exact w_X0_addTimes_0 X hd hQ (lp_X0_addTimes X hd hQ hc hv (by omega) k 0 u L (by omega) (by omega) hB hL hp)
theorem c_X0_addTimes {l : Launch} {Z : gx_Z} {u : gx_S} {v0 : Nat} {v1 : Int32} {v2 : Int32} {post : gx_S → Prop} (h : S_X0_addTimes u v0 v1 v2 post) : Met l yX0_addTimes (Cond.code yX0_addTimes cX0_addTimes 4 none :: gx_TB) (gx_rm 1) (gx_Pre Z u [.ref (Z.2.1 v0), .int v1, .int v2]) (va_Qv post (gx_B Z) (gx_A Z)) 0 0 (gx_A Z) := by
  refine gx_met (by decide +kernel) (Nat.le_of_ble_eq_true rfl) ?_
  intro E X hZ hQ hD hL
  subst hZ
  exact w_X0_addTimes X (Nat.le_of_eq hD.symm) hQ h
-- addPart
theorem ch_drop {M : List Nat} {i : Nat} (h : i < M.length) : M.drop i = ch M i :: M.drop (i + 1) := by
  rw [List.drop_eq_getElem_cons h]
  unfold ch
  rw [List.getD_eq_getElem?_getD, List.getElem?_eq_getElem h]
  rfl
def S_X0_addPart (u : gx_S) (v0 v1 : Nat) (v2 v3 : Int32) (post : gx_S → Prop) : Prop := ∃ (L M : List Nat) (i j : Nat), byL u v0 L ∧ byL u v1 M ∧ v1 ≠ v0 ∧ gx_r u v1 0 ≠ gx_r u v0 0 ∧ v2 = nI i ∧ v3 = nI j ∧ i < 2 ^ 30 ∧ j ≤ M.length ∧ L.length + (j - i) ≤ 2000 ∧ byU u v0 (L ++ (M.drop i).take (j - i)) post
theorem lp_X0_addPart {E : gx_E} (X : gx_X E cX0_addPart 5 RX0 none) (hd : 1 ≤ ex_d E) {post : gx_S → Prop} (hQ : ex_Q E = va_Qv post (gx_B (ex_Z E)) (gx_A (ex_Z E))) {v0 v1 : Nat} {v2 : Int32} {j : Nat} {M : List Nat} (hj : j ≤ M.length) :
    ∀ (n i : Nat) (u : gx_S) (L : List Nat), j - i = n → i < 2 ^ 30 → byL u v0 L → byL u v1 M → v1 ≠ v0 → gx_r u v1 0 ≠ gx_r u v0 0 → L.length + n ≤ 2000 → byU u v0 (L ++ (M.drop i).take n) post → J_X0_addPart_3 E v0 v1 v2 (nI j) (nI i) u := by
  intro n
  induction n with
  | zero =>
    intro i u L hn hi hB hM hne hr hL hp
    have hM2 := hM.2.2.2.2.1
    refine w_X0_addPart_3 X hd hQ ⟨fun _ => ?_, fun q => absurd (nI_le (by omega) (by omega)) q⟩
    rw [List.take_zero, List.append_nil] at hp
    exact byU_self hB hp
  | succ n ih =>
    intro i u L hn hi hB hM hne hr hL hp
    have hM2 := hM.2.2.2.2.1
    have hci : ch M i < 256 := ch_lt hM.2.2.2.2.2.1 (by omega)
    refine w_X0_addPart_3 X hd hQ ⟨fun q => absurd q (nI_ge (by omega) (by omega)), fun _ => ⟨hM.1, i_X0_at hM (by omega) ⟨hB.1, ?_⟩⟩⟩
    refine i_X0_add hB (by omega) hci (by rw [cI_lo hci, byte_nI (by omega), Nat.mod_eq_of_lt hci]) (fun f hf => ?_)
    rintro x6 rfl
    rw [nI_1]
    refine ih (i + 1) _ (L ++ [ch M i]) (by omega) (by omega) (byL_push hB hf (by omega)) (byL_ne hM hne hr) hne hr (by rw [len_push]; omega) (byU_W ?_)
    rwa [List.append_assoc, List.singleton_append, ← List.take_succ_cons, ← ch_drop (by omega)]
theorem w_X0_addPart {E : gx_E} (X : gx_X E cX0_addPart 5 RX0 none) (hd : 1 ≤ ex_d E) {post : gx_S → Prop} (hQ : ex_Q E = va_Qv post (gx_B (ex_Z E)) (gx_A (ex_Z E))) {u : gx_S} {v0 v1 : Nat} {v2 v3 : Int32} (h : S_X0_addPart u v0 v1 v2 v3 post) : gx_Wc E 5 0 [(0, .ref (ex_ad E v0)), (1, .ref (ex_ad E v1)), (2, .int v2), (3, .int v3)] [] u := by
  obtain ⟨L, M, i, j, hB, hM, hne, hr, rfl, rfl, hi, hj, hL, hp⟩ := h
  exact w_X0_addPart_0 X hd hQ (lp_X0_addPart X hd hQ hj (j - i) i u L rfl hi hB hM hne hr hL hp)
theorem c_X0_addPart {l : Launch} {Z : gx_Z} {u : gx_S} {v0 : Nat} {v1 : Nat} {v2 : Int32} {v3 : Int32} {post : gx_S → Prop} (h : S_X0_addPart u v0 v1 v2 v3 post) : Met l yX0_addPart (Cond.code yX0_addPart cX0_addPart 5 none :: gx_TB) (gx_rm 1) (gx_Pre Z u [.ref (Z.2.1 v0), .ref (Z.2.1 v1), .int v2, .int v3]) (va_Qv post (gx_B Z) (gx_A Z)) 0 0 (gx_A Z) := by
  refine gx_met (by decide +kernel) (Nat.le_of_ble_eq_true rfl) ?_
  intro E X hZ hQ hD hL
  subst hZ
  exact w_X0_addPart X (Nat.le_of_eq hD.symm) hQ h
-- find
def fndF (M : List Nat) (c : Nat) : Nat → Nat → Nat
  | 0, _ => M.length
  | k + 1, i => if ch M i = c then i else fndF M c k (i + 1)
/-- where c stands at or behind i, or the length -/
def fnd (M : List Nat) (c i : Nat) : Nat := fndF M c (M.length - i) i
def S_X0_find (u : gx_S) (v0 : Nat) (v1 v2 : Int32) (post : Int32 → gx_S → Prop) : Prop := ∃ (M : List Nat) (c i : Nat), byL u v0 M ∧ c < 256 ∧ v1 = nI c ∧ i < 2 ^ 30 ∧ v2 = nI i ∧ post (nI (fnd M c i)) u
theorem lp_X0_find {E : gx_E} (X : gx_X E cX0_find 4 RX0 (some .int)) (hd : 1 ≤ ex_d E) {post : Int32 → gx_S → Prop} (hQ : ex_Q E = va_Qi post (gx_B (ex_Z E)) (gx_A (ex_Z E))) {v0 : Nat} {v2 : Int32} {c : Nat} (hc : c < 256) {M : List Nat} {u : gx_S} (hM : byL u v0 M) :
    ∀ (n i : Nat), M.length - i = n → i < 2 ^ 30 → post (nI (fndF M c n i)) u → J_X0_find_2 E v0 (nI c) v2 (nI i) u := by
  have hM2 := hM.2.2.2.2.1
  have hM4 := hM.2.2.2.1
  intro n
  induction n with
  | zero =>
    intro i hn hi hp
    refine w_X0_find_2 X hd hQ ⟨hM.1, ?_, ?_⟩
    · intro _; rw [hM4]; exact hp
    · intro q; rw [hM4] at q; exact absurd (nI_le (by omega) (by omega)) q
  | succ n ih =>
    intro i hn hi hp
    refine w_X0_find_2 X hd hQ ⟨hM.1, ?_, ?_⟩
    · intro q; rw [hM4] at q; exact absurd q (nI_ge (by omega) (by omega))
    · intro _
      refine i_X0_at hM (by omega) ?_
      unfold fndF at hp
      refine ⟨fun q => ?_, fun q => ?_⟩
      · rintro x4 rfl
        rw [nI_1]
        rw [cI_eq hc] at q
        rw [if_neg q] at hp
        exact ih (i + 1) (by omega) (by omega) hp
      · rw [cI_eq hc] at q
        rw [if_pos q] at hp
        exact hp
theorem w_X0_find {E : gx_E} (X : gx_X E cX0_find 4 RX0 (some .int)) (hd : 1 ≤ ex_d E) {post : Int32 → gx_S → Prop} (hQ : ex_Q E = va_Qi post (gx_B (ex_Z E)) (gx_A (ex_Z E))) {u : gx_S} {v0 : Nat} {v1 v2 : Int32} (h : S_X0_find u v0 v1 v2 post) : gx_Wc E 4 0 [(0, .ref (ex_ad E v0)), (1, .int v1), (2, .int v2)] [] u := by
  obtain ⟨M, c, i, hM, hc, rfl, hi, rfl, hp⟩ := h
  exact w_X0_find_0 X hd hQ (lp_X0_find X hd hQ hc hM (M.length - i) i rfl hi hp)
theorem c_X0_find {l : Launch} {Z : gx_Z} {u : gx_S} {v0 : Nat} {v1 : Int32} {v2 : Int32} {post : Int32 → gx_S → Prop} (h : S_X0_find u v0 v1 v2 post) : Met l yX0_find (Cond.code yX0_find cX0_find 4 (some .int) :: gx_TB) (gx_rm 1) (gx_Pre Z u [.ref (Z.2.1 v0), .int v1, .int v2]) (va_Qi post (gx_B Z) (gx_A Z)) 0 0 (gx_A Z) := by
  refine gx_met (by decide +kernel) (Nat.le_of_ble_eq_true rfl) ?_
  intro E X hZ hQ hD hL
  subst hZ
  exact w_X0_find X (Nat.le_of_eq hD.symm) hQ h
-- dropWhiteAndNewlines
def bare (c : Nat) : Bool := !isW c && c != 10
def S_X0_dropWhiteAndNewlines (u : gx_S) (v0 : Nat) (post : gx_S → Prop) : Prop := ∃ L : List Nat, byL u v0 L ∧ byU u v0 (L.filter bare) post
theorem lp_X0_drop {E : gx_E} (X : gx_X E cX0_dropWhiteAndNewlines 4 RX0 none) (hd : 1 ≤ ex_d E) {post : gx_S → Prop} (hQ : ex_Q E = va_Qv post (gx_B (ex_Z E)) (gx_A (ex_Z E))) {v0 : Nat} {L : List Nat} (hL : L.length ≤ 2000) (hok : okL L) :
    ∀ (n i : Nat) (u : gx_S) (K : List Nat), L.length - i = n → i ≤ L.length → byL u v0 K → K.length ≤ i → (∀ j, i ≤ j → j < L.length → gx_a u (gx_r u v0 0) j = sb_b (ch L j)) → byU u v0 (K ++ (L.drop i).filter bare) post → J_X0_dropWhiteAndNewlines_12 E v0 (nI L.length) (nI i) u := by
  intro n
  induction n with
  | zero =>
    intro i u K hn hi hB hK hf hp
    refine w_X0_dropWhiteAndNewlines_12 X hd hQ ⟨fun _ => ?_, fun q => absurd (nI_le (by omega) (by omega)) q⟩
    rw [List.drop_of_length_le (by omega), List.filter_nil, List.append_nil] at hp
    exact byU_self hB hp
  | succ n ih =>
    intro i u K hn hi hB hK hf hp
    have hci : ch L i < 256 := ch_lt hok (by omega)
    refine w_X0_dropWhiteAndNewlines_12 X hd hQ ⟨fun q => absurd q (nI_ge (by omega) (by omega)), fun _ => ⟨hB.1, hB.2.1.r, by rw [hB.2.2.1]; exact vp_in_nI (by omega) (by omega), ?_⟩⟩
    intro x4 e4
    rw [nI_clamp (by omega), hf i (Nat.le_refl _) (by omega), sb_nI hci, ← cI_lo hci] at e4
    subst e4
    rw [ch_drop (by omega)] at hp
    refine i_X6_isWhite ⟨fun q => ?_, fun q => ⟨fun q2 => ?_, fun q2 => ?_⟩⟩
    · rintro x7 rfl
      rw [nI_1]
      rw [b2_0] at q
      have hb : bare (ch L i) = false := by unfold bare; cases h9 : isW (ch L i) <;> simp_all
      rw [List.filter_cons, hb] at hp
      exact ih (i + 1) u K (by omega) (by omega) hB (by omega) (fun j h1 h2 => hf j (by omega) h2) hp
    · rintro x8 rfl
      rw [nI_1]
      have q3 : ch L i = 10 := (cI_eq (k := 10) (by omega)).mp q2
      have hb : bare (ch L i) = false := by unfold bare; rw [q3]; rfl
      rw [List.filter_cons, hb] at hp
      exact ih (i + 1) u K (by omega) (by omega) hB (by omega) (fun j h1 h2 => hf j (by omega) h2) hp
    · have q3 : ¬ ch L i = 10 := fun e => q2 ((cI_eq (k := 10) (by omega)).mpr e)
      rw [b2_0] at q
      have hb : bare (ch L i) = true := by unfold bare; rw [q]; simpa using q3
      rw [List.filter_cons, hb, if_pos rfl] at hp
      refine i_X0_addx hB (by omega) hci (by rw [cI_lo hci, byte_nI (by omega), Nat.mod_eq_of_lt hci]) ?_
      rintro x10 rfl
      rw [nI_1]
      have hpush := rdb_push hB.2.2.2.2.2 hci rfl
      have hB2 := byL_push hB hpush (by omega)
      rw [len_push] at hB2
      refine ih (i + 1) _ (K ++ [ch L i]) (by omega) (by omega) hB2 (by rw [len_push]; omega) (fun j h1 h2 => ?_) (byU_W ?_)
      · rw [byW_a, byW_r, if_pos rfl, pk_un (by omega)]
        exact hf j (by omega) h2
      · rwa [List.append_assoc, List.singleton_append]
theorem w_X0_dropWhiteAndNewlines {E : gx_E} (X : gx_X E cX0_dropWhiteAndNewlines 4 RX0 none) (hd : 1 ≤ ex_d E) {post : gx_S → Prop} (hQ : ex_Q E = va_Qv post (gx_B (ex_Z E)) (gx_A (ex_Z E))) {u : gx_S} {v0 : Nat} (h : S_X0_dropWhiteAndNewlines u v0 post) : gx_Wc E 4 0 [(0, .ref (ex_ad E v0))] [] u := by
  obtain ⟨L, hB, hp⟩ := h
  refine w_X0_dropWhiteAndNewlines_0 X hd hQ ⟨hB.1, ?_⟩
  intro x2 e2 u3 e3
  rw [hB.2.2.2.1] at e2
  subst e2 e3
  rw [show (0 : Int32) = nI 0 from nI_0.symm, byW_pi]
  refine lp_X0_drop X hd hQ hB.2.2.2.2.1 hB.2.2.2.2.2.1 L.length 0 _ [] (by omega) (by omega) (byL_W hB (rdb_nil _) (by simp)) (Nat.le_refl _) (fun j _ h2 => ?_) (byU_W ?_)
  · rw [byW_a, byW_r, if_pos rfl]
    exact hB.2.2.2.2.2.2 j h2
  · rwa [List.drop_zero, List.nil_append]
theorem c_X0_dropWhiteAndNewlines {l : Launch} {Z : gx_Z} {u : gx_S} {v0 : Nat} {post : gx_S → Prop} (h : S_X0_dropWhiteAndNewlines u v0 post) : Met l yX0_dropWhiteAndNewlines (Cond.code yX0_dropWhiteAndNewlines cX0_dropWhiteAndNewlines 4 none :: gx_TB) (gx_rm 1) (gx_Pre Z u [.ref (Z.2.1 v0)]) (va_Qv post (gx_B Z) (gx_A Z)) 0 0 (gx_A Z) := by
  refine gx_met (by decide +kernel) (Nat.le_of_ble_eq_true rfl) ?_
  intro E X hZ hQ hD hL
  subst hZ
  exact w_X0_dropWhiteAndNewlines X (Nat.le_of_eq hD.symm) hQ h
