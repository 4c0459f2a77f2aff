/-! BOTH TOGETHER: each call of the class, and behind it the same call of the model, answer alike and keep the common state -/
theorem mS_C {u v : gx_S} {t k : Nat} {T O M G : List Nat} {HC KC : Nat → Int32} (h : mS u t T O M k G HC KC) (hx : exC u v) : mS v t T O M k G HC KC := by
  obtain ⟨h0, h1, h2, h3, h4, h5, h6⟩ := h
  have ii : ∀ o k, 9 ≤ o → gx_i v o k = gx_i u o k := hx.1
  have rr : ∀ o k, gx_r v o k = gx_r u o k := fun o k => by unfold gx_r; rw [hx.2.2.1]
  have aa : ∀ a, 21 ≤ a → gx_a v a = gx_a u a := hx.2.2.2
  have t9 : 9 ≤ t := by omega
  have hb : 38 ≤ tbx t := by unfold tbx; split <;> omega
  refine ⟨h0, fun o k a b => (rr o k).trans (h1 o k a b), ?_, ?_, ?_, ?_, ?_⟩
  · unfold mt at h2 ⊢; rw [ii 21 1 (by omega), aa 28 (by omega)]; exact h2
  · unfold mo at h3 ⊢; rw [ii 21 2 (by omega), aa 29 (by omega)]; exact h3
  · unfold mm at h4 ⊢; rw [ii 21 14 (by omega), ii 21 11 (by omega), ii 21 13 (by omega), ii 21 12 (by omega), aa 30 (by omega), aa 31 (by omega), aa 32 (by omega), aa 33 (by omega)]; exact h4
  · unfold mg at h5 ⊢; rw [ii t 4 t9, aa (tbx t) (by omega), aa (tbx t + 1) (by omega), aa (tbx t + 2) (by omega), aa (tbx t + 3) (by omega)]; exact h5
  · unfold mh at h6 ⊢; rw [aa 47 (by omega), aa 50 (by omega)]; exact h6
theorem byL_M {u v : gx_S} {o a : Nat} {L : List Nat} (h : byL u o L) (hx : exM u v) (ho : o < 21) (ha : gx_r u o 0 = a) (ha2 : a < 21) : byL v o L := by
  obtain ⟨h1, h2, h3, h4, h5, h6⟩ := h
  refine ⟨h1, ?_, ?_, ?_, h5, ?_⟩
  · rw [hx.2.1 o 0 ho]; exact h2
  · rw [hx.2.1 o 0 ho]; exact h3
  · rw [hx.1 o 1 ho]; exact h4
  · rw [hx.2.1 o 0 ho, ha, hx.2.2 a (Or.inl ha2), ← ha]; exact h6
theorem cS_M {u v : gx_S} {k : Nat} {T O M G : List Nat} (h : cS u T O M k G) (hx : exM u v) : cS v T O M k G := by
  obtain ⟨h0, h1, h2, h3, h4⟩ := h
  obtain ⟨m1, m2, m3, m4⟩ := h3
  refine ⟨fun o k ho => (hx.2.1 o k (by omega)).trans (h0 o k ho), byL_M h1 hx (by omega) (h0 1 0 (by decide)) (by decide), byL_M h2 hx (by omega) (h0 2 0 (by decide)) (by decide), ⟨byL_M m1 hx (by omega) (h0 4 0 (by decide)) (by decide), by rw [hx.1 3 2 (by omega)]; exact m2, m3, fun j hj => by rw [hx.2.2 13 (Or.inl (by omega))]; exact m4 j hj⟩, byL_M h4 hx (by omega) (h0 6 0 (by decide)) (by decide)⟩
def Inv (hc kc : Nat → Int32) (u : gx_S) : Prop := ∃ (t k : Nat) (T O M G : List Nat), cS u T O M k G ∧ mS u t T O M k G hc kc ∧ (k ≠ 0 → k = cnt M) ∧ gx_a u 60 = hc ∧ gx_a u 61 = kc
theorem mkI {hc kc : Nat → Int32} {u v w : gx_S} {t k : Nat} {T O M G : List Nat} (hu : gx_a u 60 = hc ∧ gx_a u 61 = kc) (xv : exC u v) (xw : exM v w) (sv : cS v T O M k G) (mw : mS w t T O M k G hc kc) (hk : k ≠ 0 → k = cnt M) : Inv hc kc w := by
  refine ⟨t, k, T, O, M, G, cS_M sv xw, mw, hk, ?_, ?_⟩
  · rw [xw.2.2 60 (Or.inr (by omega)), xv.2.2.2 60 (by omega)]; exact hu.1
  · rw [xw.2.2 61 (Or.inr (by omega)), xv.2.2.2 61 (by omega)]; exact hu.2
theorem pr_feed {hc kc : Nat → Int32} {u : gx_S} (h : Inv hc kc u) (a b c d e : Int32) : S_X6_feed u 0 a b c d e (fun r u1 => S_X10_feed u1 21 a b c d e (fun r2 u2 => r = r2 ∧ Inv hc kc u2)) := by
  obtain ⟨t, k, T, O, M, G, hc1, hm1, hk, hu⟩ := h
  refine t_feed hc1 (fun hl v xv sv => ?_) (fun hl => ?_)
  · exact q_feed (mS_C hm1 xv) (fun _ w xw mw => ⟨rfl, mkI hu xv xw sv mw hk⟩) (fun h2 => absurd hl h2)
  · exact q_feed hm1 (fun h2 => absurd h2 hl) (fun _ => ⟨rfl, t, k, T, O, M, G, hc1, hm1, hk, hu⟩)
theorem pr_end {hc kc : Nat → Int32} {u : gx_S} (h : Inv hc kc u) (x : Int32) : S_X6_end u 0 x (fun r u1 => S_X10_end u1 21 x (fun r2 u2 => r = r2 ∧ Inv hc kc u2)) := by
  obtain ⟨t, k, T, O, M, G, hc1, hm1, hk, hu⟩ := h
  have hl := hm1.2.2.1.2.1
  refine t_end hc1 (fun n hn e v xv sv => ?_) (fun hb => ?_)
  · refine q_end (mS_C hm1 xv) (fun n' hn' e' w xw mw => ⟨rfl, ?_⟩) (fun hb => ?_)
    · have : n = n' := (nI_eq (by omega) (by omega)).mp (e.symm.trans e')
      subst this
      exact mkI hu xv xw sv mw hk
    · exfalso
      rw [e] at hb
      rcases hb with hb | hb
      · exact nI_pos (by omega) hb
      · exact nI_nlt (by omega) (by omega) hb
  · refine q_end hm1 (fun n hn e w xw mw => ?_) (fun _ => ⟨rfl, t, k, T, O, M, G, hc1, hm1, hk, hu⟩)
    exfalso
    rw [e] at hb
    rcases hb with hb | hb
    · exact nI_pos (by omega) hb
    · exact nI_nlt (by omega) (by omega) hb
theorem pr_message {hc kc : Nat → Int32} {u : gx_S} (h : Inv hc kc u) : S_X6_message u 0 (fun r u1 => S_X10_message u1 21 (fun r2 u2 => r = r2 ∧ Inv hc kc u2)) := by
  obtain ⟨t, k, T, O, M, G, hc1, hm1, hk, hu⟩ := h
  refine t_message hc1 (fun e v xv sv => ?_) (fun e v xv sv => ?_)
  · exact ⟨rfl, t, k, T, O, M, G, hc, kc, mS_C hm1 xv, fun _ w xw mw => ⟨rfl, mkI hu xv xw sv mw (fun _ => rfl)⟩, fun e2 => absurd e2 e⟩
  · exact ⟨rfl, t, k, T, O, M, G, hc, kc, mS_C hm1 xv, fun e2 => absurd e e2, fun _ w xw mw => ⟨rfl, mkI hu xv xw sv mw hk⟩⟩
theorem cS_Ml {u : gx_S} {k : Nat} {T O M G : List Nat} (h : cS u T O M k G) : M.length ≤ 2000 := h.2.2.2.1.1.2.2.2.2.1
theorem pr_plainBody {hc kc : Nat → Int32} {u : gx_S} (h : Inv hc kc u) (rel : Bool) : S_X6_plainBody u 0 (b2 rel) (fun r u1 => S_X10_plainBody u1 21 (b2 rel) (fun r2 u2 => r = r2 ∧ Inv hc kc u2)) := by
  obtain ⟨t, k, T, O, M, G, hc1, hm1, hk, hu⟩ := h
  refine t_plainBody hc1 (bodyO_len (cS_Ml hc1)) (fun e v xv sv => ?_) (fun e => ?_)
  · exact q_plainBody (mS_C hm1 xv) (fun _ w xw mw => ⟨rfl, mkI hu xv xw sv mw hk⟩) (fun e2 => absurd e2 e)
  · exact q_plainBody hm1 (fun e2 => absurd e e2) (fun _ => ⟨rfl, t, k, T, O, M, G, hc1, hm1, hk, hu⟩)
theorem pr_plainField {hc kc : Nat → Int32} {u : gx_S} (h : Inv hc kc u) (x : Int32) (rel : Bool) : S_X6_plainField u 0 x (b2 rel) (fun r u1 => S_X10_plainField u1 21 x (b2 rel) (fun r2 u2 => r = r2 ∧ Inv hc kc u2)) := by
  obtain ⟨t, k, T, O, M, G, hc1, hm1, hk, hu⟩ := h
  have hk20 : k ≤ 20 := hc1.2.2.2.1.2.2.1
  refine t_plainField hc1 (fun j hj => ?_) (fun j hj => rfO_len (by have := hk (by omega); omega) (cS_Ml hc1)) (fun j hj e v xv sv => ?_) (fun hb => ?_)
  · have := (pl_ok (M := M) (j := j) (by have := hk (by omega); omega)).2.1
    omega
  · refine q_plainField (mS_C hm1 xv) hk (fun j' hj' e' w xw mw => ?_) (fun hb => ?_)
    · have : j = j' := (nI_eq (by omega) (by omega)).mp (e.symm.trans e')
      subst this
      exact ⟨rfl, mkI hu xv xw sv mw hk⟩
    · exfalso
      rw [e] at hb
      rcases hb with hb | hb
      · exact nI_pos (by omega) hb
      · exact nI_ge (by omega) (by omega) hb
  · refine q_plainField hm1 hk (fun j hj e w xw mw => ?_) (fun _ => ⟨rfl, t, k, T, O, M, G, hc1, hm1, hk, hu⟩)
    exfalso
    rw [e] at hb
    rcases hb with hb | hb
    · exact nI_pos (by omega) hb
    · exact nI_ge (by omega) (by omega) hb
theorem pr_named {hc kc : Nat → Int32} {u : gx_S} (h : Inv hc kc u) : S_X6_named u 0 (fun r u1 => S_X10_named u1 21 (fun r2 u2 => r = r2 ∧ Inv hc kc u2)) := by
  obtain ⟨t, k, T, O, M, G, hc1, hm1, hk, hu⟩ := h
  refine t_named hc1 (fun e v xv sv => ?_) (fun e v xv sv => ?_)
  · exact ⟨rfl, t, k, T, O, M, G, hc, kc, mS_C hm1 xv, hk, fun _ w xw mw => ⟨rfl, mkI hu xv xw sv mw hk⟩, fun e2 => absurd e2 e⟩
  · exact ⟨rfl, t, k, T, O, M, G, hc, kc, mS_C hm1 xv, hk, fun e2 => absurd e e2, fun _ w xw mw => ⟨rfl, mkI hu xv xw sv mw hk⟩⟩
theorem pr_tags {hc kc : Nat → Int32} {u : gx_S} (h : Inv hc kc u) : S_X6_tags u 0 (fun r u1 => S_X10_tags u1 21 (fun r2 u2 => r = r2 ∧ Inv hc kc u2)) := by
  obtain ⟨t, k, T, O, M, G, hc1, hm1, hk, hu⟩ := h
  refine t_tags hc1 (fun e v xv sv => ?_) (fun e v xv sv => ?_)
  · exact ⟨rfl, t, k, T, O, M, G, hc, kc, mS_C hm1 xv, fun _ w xw mw => ⟨rfl, mkI hu xv xw sv mw hk⟩, fun e2 => absurd e2 e⟩
  · exact ⟨rfl, t, k, T, O, M, G, hc, kc, mS_C hm1 xv, fun e2 => absurd e e2, fun _ w xw mw => ⟨rfl, mkI hu xv xw sv mw hk⟩⟩
theorem pr_tag {hc kc : Nat → Int32} {u : gx_S} (h : Inv hc kc u) : S_X6_tag u 0 (fun r u1 => S_X10_tag u1 21 (fun r2 u2 => r = r2 ∧ Inv hc kc u2)) := by
  obtain ⟨t, k, T, O, M, G, hc1, hm1, hk, hu⟩ := h
  refine t_tag hc1 (fun z e v xv sv => ?_) (fun e v xv sv => ?_)
  · refine q_tag (mS_C hm1 xv) (fun z' e' w xw mw => ?_) (fun e2 => (by rw [e] at e2; cases e2))
    rw [e] at e'
    cases e'
    exact ⟨rfl, mkI hu xv xw sv mw hk⟩
  · exact q_tag (mS_C hm1 xv) (fun z' e' => by rw [e] at e'; cases e') (fun _ w xw mw => ⟨rfl, mkI hu xv xw sv mw hk⟩)
theorem pr_decode {hc kc : Nat → Int32} {u : gx_S} (h : Inv hc kc u) (x : Int32) : S_X6_decode u 0 x (fun r u1 => S_X10_decode u1 21 x (fun r2 u2 => r = r2 ∧ Inv hc kc u2)) := by
  obtain ⟨t, k, T, O, M, G, hc1, hm1, hk, hu⟩ := h
  refine t_decode hc1 (fun n hn e ha v xv sv => ?_) (fun n hn e ha v xv sv => ?_) (fun hb => ?_)
  · refine ⟨rfl, t, k, T, O, M, G, hc, kc, mS_C hm1 xv, fun n' hn' e' ha' w xw mw => ?_, fun n' hn' e' ha' => ?_, fun hb => ?_⟩
    · have : n = n' := (nI_eq (by omega) (by omega)).mp (e.symm.trans e')
      subst this
      exact ⟨rfl, mkI hu xv xw sv mw hk⟩
    · have : n = n' := (nI_eq (by omega) (by omega)).mp (e.symm.trans e')
      subst this
      rw [ha] at ha'; cases ha'
    · exfalso
      rw [e] at hb
      rcases hb with hb | hb
      · exact nI_pos (by omega) hb
      · exact nI_nlt (by omega) (by omega) hb
  · refine ⟨rfl, t, k, T, O, M, G, hc, kc, mS_C hm1 xv, fun n' hn' e' ha' => ?_, fun n' hn' e' ha' w xw mw => ⟨rfl, mkI hu xv xw sv mw hk⟩, fun hb => ?_⟩
    · have : n = n' := (nI_eq (by omega) (by omega)).mp (e.symm.trans e')
      subst this
      rw [ha] at ha'; cases ha'
    · exfalso
      rw [e] at hb
      rcases hb with hb | hb
      · exact nI_pos (by omega) hb
      · exact nI_nlt (by omega) (by omega) hb
  · have no : ∀ n, n ≤ 900 → x = nI n → False := fun n hn e => by
      rw [e] at hb
      rcases hb with hb | hb
      · exact nI_pos (by omega) hb
      · exact nI_nlt (by omega) (by omega) hb
    exact ⟨rfl, t, k, T, O, M, G, hc, kc, hm1, fun n hn e => absurd e (fun z => no n hn z), fun n hn e => absurd e (fun z => no n hn z), fun _ => ⟨rfl, t, k, T, O, M, G, hc1, hm1, hk, hu⟩⟩
theorem pr_digest {hc kc : Nat → Int32} {u : gx_S} (h : Inv hc kc u) : S_X6_digest u 0 (fun r u1 => S_X10_digest_ u1 21 (fun r2 u2 => r = r2 ∧ Inv hc kc u2)) := by
  obtain ⟨t, k, T, O, M, G, hc1, hm1, hk, hu⟩ := h
  refine t_digest hc1 (fun v xv sv => ?_)
  rw [hu.1, hu.2] at sv
  exact q_digest (mS_C hm1 xv) (fun w xw mw => ⟨rfl, mkI hu xv xw sv mw hk⟩)
theorem pr_power {hc kc : Nat → Int32} {u : gx_S} (h : Inv hc kc u) : S_X6_power u 0 (fun r u1 => S_X10_power u1 21 (fun r2 u2 => r = r2 ∧ Inv hc kc u2)) := by
  obtain ⟨t, k, T, O, M, G, hc1, hm1, hk, hu⟩ := h
  refine t_power hc1 (fun e r ok1 v1 v xv sv => ?_) (fun e v xv sv => ?_)
  · refine ⟨rfl, t, k, T, O, M, G, hc, kc, mS_C hm1 xv, fun _ r' ok2 v2 w xw mw => ⟨rfl, ?_⟩, fun e2 => (by rw [e] at e2; cases e2)⟩
    rw [pB_cg (dg_inj 32 ok2 ok1 (v2.trans v1.symm)) 32] at mw
    exact mkI hu xv xw sv mw hk
  · exact ⟨rfl, t, k, T, O, M, G, hc, kc, mS_C hm1 xv, fun e2 => (by rw [e] at e2; cases e2), fun _ w xw mw => ⟨rfl, mkI hu xv xw sv mw hk⟩⟩
theorem pr_octet {hc kc : Nat → Int32} {u : gx_S} (h : Inv hc kc u) (x : Int32) : S_X6_octet u 0 x (fun r u1 => S_X10_octet u1 21 x (fun r2 u2 => r = r2 ∧ Inv hc kc u2)) := by
  have h' := h
  obtain ⟨t, k, T, O, M, G, hc1, hm1, hk, hu⟩ := h
  refine t_octet hc1 (fun e => ?_) (fun j e hj => ?_) (fun e1 e2 => ?_)
  · refine q_octet hm1 (fun _ => ⟨rfl, h'⟩) (fun j e2 hj => ?_) (fun _ e2 => absurd e e2)
    exfalso
    rw [e] at e2
    have := congrArg Int32.toInt e2
    rw [nI_toInt hj, show (-1 : Int32).toInt = -1 by decide] at this
    omega
  · refine q_octet hm1 (fun e2 => ?_) (fun j' e2 hj' => ?_) (fun e2 _ => ?_)
    · exfalso
      rw [e2] at e
      have := congrArg Int32.toInt e
      rw [nI_toInt hj, show (-1 : Int32).toInt = -1 by decide] at this
      omega
    · have : j = j' := (nI_eq hj hj').mp (e.symm.trans e2)
      subst this
      exact ⟨rfl, h'⟩
    · rw [e] at e2
      exact absurd e2 (nI_pos hj)
  · refine q_octet hm1 (fun e => absurd e e2) (fun j e hj => ?_) (fun _ _ => ⟨rfl, h'⟩)
    rw [e] at e1
    exact absurd e1 (nI_pos hj)
