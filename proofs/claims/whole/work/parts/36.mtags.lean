-- PlainSealModel$Tags.isSame(III)Z
theorem dX8_isSame_0 : decode cX8_isSame 0 = .ok (.iconst 0, 1) := by decide +kernel
theorem dX8_isSame_1 : decode cX8_isSame 1 = .ok (.istore 4, 2) := by decide +kernel
theorem dX8_isSame_3 : decode cX8_isSame 3 = .ok (.iload 4, 2) := by decide +kernel
theorem dX8_isSame_5 : decode cX8_isSame 5 = .ok (.iload_n 3, 1) := by decide +kernel
theorem dX8_isSame_6 : decode cX8_isSame 6 = .ok (.if_icmp .ge 38, 3) := by decide +kernel
theorem dX8_isSame_9 : decode cX8_isSame 9 = .ok (.aload_n 0, 1) := by decide +kernel
theorem dX8_isSame_10 : decode cX8_isSame 10 = .ok (.getfield 26, 3) := by decide +kernel
theorem dX8_isSame_13 : decode cX8_isSame 13 = .ok (.getfield 37, 3) := by decide +kernel
theorem dX8_isSame_16 : decode cX8_isSame 16 = .ok (.iload_n 1, 1) := by decide +kernel
theorem dX8_isSame_17 : decode cX8_isSame 17 = .ok (.iload 4, 2) := by decide +kernel
theorem dX8_isSame_19 : decode cX8_isSame 19 = .ok (.iadd, 1) := by decide +kernel
theorem dX8_isSame_20 : decode cX8_isSame 20 = .ok (.baload, 1) := by decide +kernel
theorem dX8_isSame_21 : decode cX8_isSame 21 = .ok (.aload_n 0, 1) := by decide +kernel
theorem dX8_isSame_22 : decode cX8_isSame 22 = .ok (.getfield 26, 3) := by decide +kernel
theorem dX8_isSame_25 : decode cX8_isSame 25 = .ok (.getfield 37, 3) := by decide +kernel
theorem dX8_isSame_28 : decode cX8_isSame 28 = .ok (.iload_n 2, 1) := by decide +kernel
theorem dX8_isSame_29 : decode cX8_isSame 29 = .ok (.iload 4, 2) := by decide +kernel
theorem dX8_isSame_31 : decode cX8_isSame 31 = .ok (.iadd, 1) := by decide +kernel
theorem dX8_isSame_32 : decode cX8_isSame 32 = .ok (.baload, 1) := by decide +kernel
theorem dX8_isSame_33 : decode cX8_isSame 33 = .ok (.if_icmp .eq 5, 3) := by decide +kernel
theorem dX8_isSame_36 : decode cX8_isSame 36 = .ok (.iconst 0, 1) := by decide +kernel
theorem dX8_isSame_37 : decode cX8_isSame 37 = .ok (.ireturn, 1) := by decide +kernel
theorem dX8_isSame_38 : decode cX8_isSame 38 = .ok (.iinc 4 1, 3) := by decide +kernel
theorem dX8_isSame_41 : decode cX8_isSame 41 = .ok (.goto (-38), 3) := by decide +kernel
theorem dX8_isSame_44 : decode cX8_isSame 44 = .ok (.iconst 1, 1) := by decide +kernel
theorem dX8_isSame_45 : decode cX8_isSame 45 = .ok (.ireturn, 1) := by decide +kernel
theorem hyX8_isSame : yX8_isSame.cls ≠ "java/lang/invoke/MethodHandle" ∧ yX8_isSame.cls ≠ "java/lang/invoke/VarHandle" ∧ (parseMethodDescriptor yX8_isSame.desc).map (fun d => d.parameters.length) = some 3 := by decide +kernel
abbrev J_X8_isSame_3 (E : gx_E) (v0 : Nat) (v1 : Int32) (v2 : Int32) (v3 : Int32) (v4 : Int32) (u : gx_S) : Prop := gx_Wc E 5 3 [(0, .ref (ex_ad E v0)), (1, .int v1), (2, .int v2), (3, .int v3), (4, .int v4)] [] u
set_option maxHeartbeats 4000000 in
set_option maxRecDepth 100000 in
theorem w_X8_isSame_0 {E : gx_E} (X : gx_X E cX8_isSame 5 RX8 (some .boolean)) (hd : 0 ≤ ex_d E) {post : Int32 → gx_S → Prop} (hQ : ex_Q E = va_Qi post (gx_B (ex_Z E)) (gx_A (ex_Z E))) {u : gx_S} {v0 : Nat} {v1 : Int32} {v2 : Int32} {v3 : Int32} (h : J_X8_isSame_3 E v0 v1 v2 v3 (0 : Int32) u) : gx_Wc E 5 0 [(0, .ref (ex_ad E v0)), (1, .int v1), (2, .int v2), (3, .int v3)] [] u := by
  refine gx_iconst X (v := 0) dX8_isSame_0 (by decide) ?_
  refine gx_istore X (lv' := [(4, .int (0 : Int32)), (0, .ref (ex_ad E v0)), (1, .int v1), (2, .int v2), (3, .int v3)]) dX8_isSame_1 (by decide) rfl ?_
  exact gx_sub [1, 2, 3, 4, 0] rfl h
set_option maxHeartbeats 4000000 in
set_option maxRecDepth 100000 in
theorem w_X8_isSame_3 {E : gx_E} (X : gx_X E cX8_isSame 5 RX8 (some .boolean)) (hd : 0 ≤ ex_d E) {post : Int32 → gx_S → Prop} (hQ : ex_Q E = va_Qi post (gx_B (ex_Z E)) (gx_A (ex_Z E))) {u : gx_S} {v0 : Nat} {v1 : Int32} {v2 : Int32} {v3 : Int32} {v4 : Int32} (h : ((v3 ≤ v4 → post (1 : Int32) u) ∧ (¬ v3 ≤ v4 → (gx_isO v0 7 ∧ (gx_isO (gx_r u v0 0) 8 ∧ (gx_isR (gx_r u (gx_r u v0 0) 0) .byte ∧ vp_in (v1 + v4) (gx_len (gx_r u (gx_r u v0 0) 0)) ∧ (vp_in (v2 + v4) (gx_len (gx_r u (gx_r u v0 0) 0)) ∧ (((gx_a u (gx_r u (gx_r u v0 0) 0) (v1 + v4).toNatClampNeg) = (gx_a u (gx_r u (gx_r u v0 0) 0) (v2 + v4).toNatClampNeg) → (∀ x6 : Int32, x6 = v4 + 1 → J_X8_isSame_3 E v0 v1 v2 v3 x6 u)) ∧ (¬ (gx_a u (gx_r u (gx_r u v0 0) 0) (v1 + v4).toNatClampNeg) = (gx_a u (gx_r u (gx_r u v0 0) 0) (v2 + v4).toNatClampNeg) → post (0 : Int32) u))))))))) : gx_Wc E 5 3 [(0, .ref (ex_ad E v0)), (1, .int v1), (2, .int v2), (3, .int v3), (4, .int v4)] [] u := by
  refine gx_iload X (j := 4) dX8_isSame_3 rfl ?_
  refine gx_iload_n X (j := 3) dX8_isSame_5 rfl rfl ?_
  refine gx_icmp_ge X (tgt := 44) dX8_isSame_6 (by decide) (fun c8 => ?_) (fun c8 => ?_)
  · replace h := h.1 c8
    refine gx_iconst X (v := 1) dX8_isSame_44 (by decide) ?_
    exact gx_zret X hQ rfl h dX8_isSame_45
  · replace h := h.2 c8
    refine gx_aload_n X (j := 0) dX8_isSame_9 rfl rfl ?_
    obtain ⟨k1, h⟩ := h
    refine gx_get X k1 rfl iwX8 0 (by decide) mw_458 (v := .ref (ex_ad E (gx_r u v0 0))) rfl dX8_isSame_10 ?_
    obtain ⟨k2, h⟩ := h
    refine gx_get X k2 rfl iwX9 0 (by decide) mw_440 (v := .ref (ex_ad E (gx_r u (gx_r u v0 0) 0))) rfl dX8_isSame_13 ?_
    refine gx_iload_n X (j := 1) dX8_isSame_16 rfl rfl ?_
    refine gx_iload X (j := 4) dX8_isSame_17 rfl ?_
    refine gx_iadd X dX8_isSame_19 ?_
    obtain ⟨k3, h⟩ := h
    obtain ⟨k4, h⟩ := h
    refine gx_bald X k3 k4 dX8_isSame_20 ?_
    refine gx_aload_n X (j := 0) dX8_isSame_21 rfl rfl ?_
    refine gx_get X k1 rfl iwX8 0 (by decide) mw_458 (v := .ref (ex_ad E (gx_r u v0 0))) rfl dX8_isSame_22 ?_
    refine gx_get X k2 rfl iwX9 0 (by decide) mw_440 (v := .ref (ex_ad E (gx_r u (gx_r u v0 0) 0))) rfl dX8_isSame_25 ?_
    refine gx_iload_n X (j := 2) dX8_isSame_28 rfl rfl ?_
    refine gx_iload X (j := 4) dX8_isSame_29 rfl ?_
    refine gx_iadd X dX8_isSame_31 ?_
    obtain ⟨k5, h⟩ := h
    refine gx_bald X k3 k5 dX8_isSame_32 ?_
    refine gx_icmp_eq X (tgt := 38) dX8_isSame_33 (by decide) (fun c7 => ?_) (fun c7 => ?_)
    · replace h := h.1 c7
      obtain ⟨x6, ex6⟩ : ∃ y : Int32, y = v4 + 1 := ⟨_, rfl⟩
      replace h := h x6 ex6
      refine gx_iinc X (v := x6) (lv' := [(4, .int x6), (0, .ref (ex_ad E v0)), (1, .int v1), (2, .int v2), (3, .int v3)]) dX8_isSame_38 (j := 4) rfl (by rw [ex6]; rfl) (by decide) rfl ?_
      refine gx_goto X (tgt := 3) dX8_isSame_41 (by decide) ?_
      exact gx_sub [1, 2, 3, 4, 0] rfl h
    · replace h := h.2 c7
      refine gx_iconst X (v := 0) dX8_isSame_36 (by decide) ?_
      exact gx_zret X hQ rfl h dX8_isSame_37
-- tags: pure facts
theorem fndF_ok {L : List Nat} {c : Nat} : ∀ n i, n = L.length - i → i ≤ L.length → i ≤ fndF L c n i ∧ fndF L c n i ≤ L.length ∧ (∀ j, i ≤ j → j < fndF L c n i → ch L j ≠ c) ∧ (fndF L c n i < L.length → ch L (fndF L c n i) = c)
  | 0, i, h, hi => by
    unfold fndF
    exact ⟨hi, Nat.le_refl _, fun j x y => by omega, fun z => by omega⟩
  | n + 1, i, h, hi => by
    unfold fndF
    split
    · rename_i q
      exact ⟨Nat.le_refl _, hi, fun j x y => by omega, fun _ => q⟩
    · rename_i q
      obtain ⟨a1, a2, a3, a4⟩ := fndF_ok (L := L) (c := c) n (i + 1) (by omega) (by omega)
      refine ⟨by omega, a2, fun j x y => ?_, a4⟩
      by_cases e : j = i
      · rw [e]; exact q
      · exact a3 j (by omega) y
theorem fnd_ok {L : List Nat} {c i : Nat} (hi : i ≤ L.length) : i ≤ fnd L c i ∧ fnd L c i ≤ L.length ∧ (∀ j, i ≤ j → j < fnd L c i → ch L j ≠ c) ∧ (fnd L c i < L.length → ch L (fnd L c i) = c) := fndF_ok _ i rfl hi
theorem fnd_val {L : List Nat} {c i e : Nat} (h1 : i ≤ e) (h2 : e ≤ L.length) (h3 : ∀ j, i ≤ j → j < e → ch L j ≠ c) (h4 : e = L.length ∨ ch L e = c) : fnd L c i = e := by
  obtain ⟨a1, a2, a3, a4⟩ := fnd_ok (L := L) (c := c) (i := i) (by omega)
  by_cases z : fnd L c i < e
  · exact absurd (a4 (by omega)) (h3 _ a1 z)
  · by_cases z2 : e < fnd L c i
    · rcases h4 with h4 | h4
      · omega
      · exact absurd h4 (a3 e h1 z2)
    · omega
theorem fnd_skip {L : List Nat} {c i w : Nat} (h1 : i ≤ w) (h2 : w ≤ L.length) (h3 : ∀ j, i ≤ j → j < w → ch L j ≠ c) : fnd L c w = fnd L c i := by
  obtain ⟨a1, a2, a3, a4⟩ := fnd_ok (L := L) (c := c) (i := w) h2
  refine (fnd_val (by omega) a2 (fun j x y => ?_) ?_).symm
  · by_cases z : j < w
    · exact h3 j x z
    · exact a3 j (by omega) y
  · by_cases z : fnd L c w < L.length
    · exact Or.inr (a4 z)
    · exact Or.inl (by omega)
theorem isS_x {c : Nat} (h : isS c = true) : c ≠ 61 ∧ c ≠ 59 ∧ c < 256 := by
  unfold isS at h
  simp at h
  omega
theorem lettLen_run {T : List Nat} {a K : Nat} (hK : a ≤ K) (h1 : ∀ j, a ≤ j → j < K → isS (ch T j) = true) (h2 : isS (ch T K) = false) : lettLen T a = if K - a ≤ 8 ∧ ch T K = 61 then K - a else 0 := by
  unfold lettLen
  by_cases h20 : K - a ≤ 8
  · have e : runF isS T 8 a = K - a := runF_val 8 (K - a) a (fun j x y => h1 j x (by omega)) h20 (Or.inr (by rw [show a + (K - a) = K by omega]; exact h2))
    rw [e, show a + (K - a) = K by omega]
    by_cases h5 : ch T K = 61
    · rw [if_pos h5, if_pos ⟨h20, h5⟩]
    · rw [if_neg h5, if_neg (fun z => h5 z.2)]
  · have e : runF isS T 8 a = 8 := runF_val 8 8 a (fun j x y => h1 j x (by omega)) (Nat.le_refl _) (Or.inl rfl)
    rw [e, if_neg (fun z => (isS_x (h1 (a + 8) (by omega) (by omega))).1 z), if_neg (fun z => h20 z.1)]
theorem ll_ok {M : List Nat} {p : Nat} (h : lettLen M p ≠ 0) : ch M (p + lettLen M p) = 61 ∧ (∀ j, p ≤ j → j < p + lettLen M p → isS (ch M j) = true) ∧ p + lettLen M p < M.length := by
  unfold lettLen at h ⊢
  split at h
  · rename_i q
    rw [if_pos q]
    refine ⟨q, fun j x y => runF_all 8 p j x y, ?_⟩
    by_cases z : p + runF isS M 8 p < M.length
    · exact z
    · rw [ch_ge (by omega)] at q; omega
  · exact absurd rfl h
theorem ll_fnd {M : List Nat} {p : Nat} (h : lettLen M p ≠ 0) : p + lettLen M p + 1 ≤ fnd M 59 p ∧ fnd M 59 (p + lettLen M p + 1) = fnd M 59 p := by
  obtain ⟨h1, h2, h3⟩ := ll_ok h
  have h4 : ∀ j, p ≤ j → j < p + lettLen M p + 1 → ch M j ≠ 59 := fun j x y => by
    by_cases e : j = p + lettLen M p
    · rw [e, h1]; decide
    · exact (isS_x (h2 j x (by omega))).2.1
  have e := fnd_skip (L := M) (c := 59) (i := p) (w := p + lettLen M p + 1) (by omega) (by omega) h4
  exact ⟨by rw [← e]; exact (fnd_ok (by omega)).1, e⟩
/-- the first of the tags i .. i + d - 1 that has these letters -/
def vfF (G N : List Nat) (q n : Nat) : Nat → Nat → Option Nat
  | 0, _ => none
  | d + 1, i => if lettLen G (frp G i) = n ∧ samF G (frp G i) N q n 0 = true then some i else vfF G N q n d (i + 1)
theorem vo_vf {G N : List Nat} {q n bef m : Nat} (h1 : ∀ j, j < m → frp G j < bef) (h2 : bef ≤ frp G m) : ∀ k d i, i + d = m → d ≤ k → voF G bef N q n k (frp G i) = (vfF G N q n d i).map (fun j => frp G j + n + 1)
  | 0, d, i, h3, h4 => by
    rw [show d = 0 by omega]
    rfl
  | k + 1, 0, i, h3, h4 => by
    unfold voF vfF
    rw [if_pos (by rw [show i = m by omega]; exact h2)]
    rfl
  | k + 1, d + 1, i, h3, h4 => by
    unfold voF vfF
    rw [if_neg (by have := h1 i (by omega); omega)]
    split
    · rfl
    · exact vo_vf h1 h2 k d (i + 1) (by omega) (by omega)
/-- a bare row with and without the last semicolon -/
def bG (F G : List Nat) : Prop := (F = G ∧ (0 < F.length → ch F (F.length - 1) ≠ 59)) ∨ F = G ++ [59]
theorem bG_bare (T : List Nat) : bG (T.filter bare) (bareT T) := by
  unfold bareT
  split
  · rename_i q
    right
    obtain ⟨q1, q2⟩ := q
    have h := ch_drop (M := T.filter bare) (i := (T.filter bare).length - 1) (by omega)
    rw [q2, show (T.filter bare).length - 1 + 1 = (T.filter bare).length by omega, List.drop_length] at h
    rw [← h, List.take_append_drop]
  · rename_i q
    left
    exact ⟨rfl, fun z e => q ⟨z, e⟩⟩
theorem bG_ok {F G : List Nat} (h : bG F G) : G.length ≤ F.length ∧ (∀ j, j < G.length → ch F j = ch G j) ∧ (F.length = G.length ∨ (F.length = G.length + 1 ∧ ch F G.length = 59)) ∧ (F = [] → G = []) := by
  rcases h with ⟨rfl, h⟩ | rfl
  · exact ⟨Nat.le_refl _, fun _ _ => rfl, Or.inl rfl, fun z => z⟩
  · refine ⟨by simp, fun j hj => ch_app_lo hj, Or.inr ⟨by simp, ?_⟩, fun z => by simp at z⟩
    rw [ch_app_hi (Nat.le_refl _), Nat.sub_self]
    rfl
theorem bG_rdb {F G : List Nat} {f : Nat → Int32} (h : bG F G) (hr : rdb F f) : rdb G f := by
  rcases h with ⟨rfl, _⟩ | rfl
  · exact hr
  · have := rdb_take hr G.length
    rwa [List.take_left] at this
/-- what ct says of each tag -/
theorem ct_fr {G : List Nat} (h : ct G ≠ 0) : ∀ i, i < ct G → ct G = ctF G (40 - i) (i + 1) (frp G i) ∧ lettLen G (frp G i) ≠ 0 ∧ (i + 1 < ct G → fnd G 59 (frp G i) < G.length) ∧ (i + 1 = ct G → fnd G 59 (frp G i) = G.length) := by
  have h40 := ct_le G
  have key : ∀ i, i < ct G → ct G = ctF G (40 - i) (i + 1) (frp G i) → lettLen G (frp G i) ≠ 0 ∧ (i + 1 < ct G → fnd G 59 (frp G i) < G.length ∧ ct G = ctF G (40 - (i + 1)) (i + 1 + 1) (frp G (i + 1))) ∧ (i + 1 = ct G → fnd G 59 (frp G i) = G.length) := by
    intro i hi e
    rw [show 40 - i = (40 - (i + 1)) + 1 by omega] at e
    unfold ctF at e
    split at e
    · omega
    · rename_i q1
      split at e
      · split at e
        · rename_i q3
          refine ⟨q1, fun _ => ⟨q3, e⟩, fun z => ?_⟩
          by_cases z2 : 40 - (i + 1) = 0
          · rw [z2] at e; unfold ctF at e; omega
          · exfalso
            have hgt : ∀ k f p, ctF G k f p ≠ 0 → f ≤ ctF G k f p := by
              intro k
              induction k with
              | zero => intro f p h; exact absurd rfl h
              | succ k ih =>
                intro f p h
                unfold ctF at h ⊢
                split at h
                · exact absurd rfl h
                · rename_i w1
                  rw [if_neg w1]
                  split at h
                  · rename_i w2
                    rw [if_pos w2]
                    split at h
                    · rename_i w3
                      rw [if_pos w3]
                      have := ih (f + 1) _ h
                      omega
                    · rename_i w3
                      rw [if_neg w3]
                      omega
                  · exact absurd rfl h
            have := hgt _ _ _ (by rw [← e]; exact h)
            omega
        · rename_i q3
          have := fnd_le G 59 (frp G i)
          exact ⟨q1, fun z => by omega, fun _ => by omega⟩
      · omega
  have all : ∀ i, i < ct G → ct G = ctF G (40 - i) (i + 1) (frp G i) := by
    intro i
    induction i with
    | zero => intro _; rfl
    | succ i ih =>
      intro hi
      exact ((key i (by omega) (ih (by omega))).2.1 (by omega)).2
  intro i hi
  have := key i hi (all i hi)
  exact ⟨all i hi, this.1, fun z => (this.2.1 z).1, this.2.2⟩
theorem fr_up {G : List Nat} (i : Nat) (h : frp G i ≤ G.length) : frp G i < frp G (i + 1) := by
  show frp G i < fnd G 59 (frp G i) + 1
  have := (fnd_ok (c := 59) h).1
  omega
theorem fr_lt {G : List Nat} {a m : Nat} (h : ∀ i, i < m → frp G i < G.length) (ha : a = frp G m) : ∀ i, i < m → frp G i < a := by
  have key : ∀ d i, i + d = m → 0 < d → frp G i < frp G m := by
    intro d
    induction d with
    | zero => intro i _ h; omega
    | succ d ih =>
      intro i hi _
      have h1 := fr_up i (Nat.le_of_lt (h i (by omega)))
      by_cases z : d = 0
      · rw [show m = i + 1 by omega]; exact h1
      · have := ih (i + 1) (by omega) (by omega)
        omega
  intro i hi
  rw [ha]
  exact key (m - i) i (by omega) (by omega)
-- isSame
theorem tg_r {u : gx_S} {t d : Nat} (hd : d = 23 ∨ d = 25) (hf : mfix t u) : gx_r u d 0 = d + 1 ∧ gx_r u (d + 1) 0 = tbx d ∧ gx_r u d 1 = tbx d + 1 ∧ gx_r u d 2 = tbx d + 2 ∧ gx_r u d 3 = tbx d + 3 := by
  rcases hd with rfl | rfl
  · exact ⟨hf 23 0 (by decide) (by decide), hf 24 0 (by decide) (by decide), hf 23 1 (by decide) (by decide), hf 23 2 (by decide) (by decide), hf 23 3 (by decide) (by decide)⟩
  · exact ⟨hf 25 0 (by decide) (by decide), hf 26 0 (by decide) (by decide), hf 25 1 (by decide) (by decide), hf 25 2 (by decide) (by decide), hf 25 3 (by decide) (by decide)⟩
theorem tg_k {d : Nat} (hd : d = 23 ∨ d = 25) : gx_isO d 7 ∧ gx_isO (d + 1) 8 ∧ gx_isA (tbx d) .byte ∧ gx_isA (tbx d + 1) .int ∧ gx_isA (tbx d + 2) .int ∧ gx_isA (tbx d + 3) .int ∧ gx_len (tbx d) = 2000 ∧ gx_len (tbx d + 1) = 40 ∧ gx_len (tbx d + 2) = 40 ∧ gx_len (tbx d + 3) = 40 := by
  rcases hd with rfl | rfl
  · exact ⟨isO_x 23 7 (by decide), isO_x 24 8 (by decide), isA_x 38 .byte (by decide) rfl, isA_x 39 .int (by decide) rfl, isA_x 40 .int (by decide) rfl, isA_x 41 .int (by decide) rfl, rfl, rfl, rfl, rfl⟩
  · exact ⟨isO_x 25 7 (by decide), isO_x 26 8 (by decide), isA_x 42 .byte (by decide) rfl, isA_x 43 .int (by decide) rfl, isA_x 44 .int (by decide) rfl, isA_x 45 .int (by decide) rfl, rfl, rfl, rfl, rfl⟩
theorem inL {a i N : Nat} (ha : gx_len a = N) (h : i < N) (hN : N < 2 ^ 31) : vp_in (nI i) (gx_len a) := by rw [ha]; exact vp_in_nI h hN
def S_X8_isSame (u : gx_S) (v0 : Nat) (v1 v2 v3 : Int32) (post : Int32 → gx_S → Prop) : Prop := ∃ (t : Nat) (L : List Nat) (p q n : Nat), (v0 = 23 ∨ v0 = 25) ∧ mfix t u ∧ rdb L (gx_a u (tbx v0)) ∧ L.length ≤ 2000 ∧ p + n ≤ L.length ∧ q + n ≤ L.length ∧ v1 = nI p ∧ v2 = nI q ∧ v3 = nI n ∧ post (b2 (samF L p L q n 0)) u
theorem w_X8_isSame {E : gx_E} (X : gx_X E cX8_isSame 5 RX8 (some .boolean)) (hd : 0 ≤ ex_d E) {post : Int32 → gx_S → Prop} (hQ : ex_Q E = va_Qi post (gx_B (ex_Z E)) (gx_A (ex_Z E))) {u : gx_S} {v0 : Nat} {v1 v2 v3 : Int32} (h : S_X8_isSame u v0 v1 v2 v3 post) : gx_Wc E 5 0 [(0, .ref (ex_ad E v0)), (1, .int v1), (2, .int v2), (3, .int v3)] [] u := by
  obtain ⟨t, L, p, q, n, h0, hf, hL, hl, hp, hq, rfl, rfl, rfl, h⟩ := h
  obtain ⟨r1, r2, r3, r4, r5⟩ := tg_r h0 hf
  obtain ⟨k1, k2, k3, k4, k5, k6, k7, k8, k9, k10⟩ := tg_k h0
  have lp : ∀ m i, n - i = m → i ≤ n → post (b2 (samF L p L q m i)) u → J_X8_isSame_3 E v0 (nI p) (nI q) (nI n) (nI i) u := by
    intro m
    induction m with
    | zero =>
      intro i hn hi h
      exact w_X8_isSame_3 X hd hQ ⟨fun _ => h, fun q => absurd (nI_le (by omega) (by omega)) q⟩
    | succ m ih =>
      intro i hn hi h
      have c1 := ch_lt hL.1 (j := p + i) (by omega)
      have c2 := ch_lt hL.1 (j := q + i) (by omega)
      unfold samF at h
      refine w_X8_isSame_3 X hd hQ ⟨fun q => absurd q (nI_ge (by omega) (by omega)), fun _ => ⟨k1, ?_⟩⟩
      rw [r1, r2, nI_add, nI_add, nI_clamp (by omega), nI_clamp (by omega), hL.2 _ (by omega), hL.2 _ (by omega), sb_inj c1 c2]
      refine ⟨k2, k3.r, inL k7 (by omega) (by omega), inL k7 (by omega) (by omega), fun z => ?_, fun z => ?_⟩
      · rintro x rfl
        rw [nI_1]
        rw [if_pos z] at h
        exact ih (i + 1) (by omega) (by omega) h
      · rw [if_neg z] at h
        exact h
  exact w_X8_isSame_0 X hd hQ (lp n 0 (by omega) (by omega) h)
theorem c_X8_isSame {l : Launch} {Z : gx_Z} {u : gx_S} {v0 : Nat} {v1 : Int32} {v2 : Int32} {v3 : Int32} {post : Int32 → gx_S → Prop} (h : S_X8_isSame u v0 v1 v2 v3 post) : Met l yX8_isSame (Cond.code yX8_isSame cX8_isSame 5 (some .boolean) :: gx_TB) (gx_rm 0) (gx_Pre Z u [.ref (Z.2.1 v0), .int v1, .int v2, .int v3]) (va_Qi post (gx_B Z) (gx_A Z)) 0 0 (gx_A Z) := by
  refine gx_met (by decide +kernel) (Nat.le_of_ble_eq_true rfl) ?_
  intro E X hZ hQ hD hL
  subst hZ
  exact w_X8_isSame X (Nat.le_of_eq hD.symm) hQ h
