theorem mi_16 : Cond.classLink RL 7 RX6 ∈ gx_TB := List.mem_filter.mpr ⟨List.mem_append_right _ (List.mem_of_getElem? (i := 16) (by decide +kernel)), by decide +kernel⟩
theorem mi_17 : Cond.instantiable RX6 6 ∈ gx_TB := List.mem_filter.mpr ⟨List.mem_append_right _ (List.mem_of_getElem? (i := 17) (by decide +kernel)), by decide +kernel⟩
theorem mi_18 : Cond.methodLink RL 9 yX6_init ∈ gx_TB := List.mem_filter.mpr ⟨List.mem_append_right _ (List.mem_of_getElem? (i := 18) (by decide +kernel)), by decide +kernel⟩
theorem mi_19 : Cond.instanceMethod yX6_init ∈ gx_TB := List.mem_filter.mpr ⟨List.mem_append_right _ (List.mem_of_getElem? (i := 19) (by decide +kernel)), by decide +kernel⟩
set_option maxRecDepth 100000 in
theorem mi_20 : Cond.code yX6_init cX6_init 1 none ∈ gx_TB := List.mem_filter.mpr ⟨List.mem_append_right _ (List.mem_of_getElem? (i := 20) rfl), by decide +kernel⟩
theorem mi_427 : Cond.classLink RL 10 RX10 ∈ gx_TB := List.mem_filter.mpr ⟨List.mem_append_right _ (List.mem_of_getElem? (i := 427) (by decide +kernel)), by decide +kernel⟩
theorem mi_428 : Cond.instantiable RX10 28 ∈ gx_TB := List.mem_filter.mpr ⟨List.mem_append_right _ (List.mem_of_getElem? (i := 428) (by decide +kernel)), by decide +kernel⟩
theorem mi_429 : Cond.methodLink RL 12 yX10_init ∈ gx_TB := List.mem_filter.mpr ⟨List.mem_append_right _ (List.mem_of_getElem? (i := 429) (by decide +kernel)), by decide +kernel⟩
theorem mi_430 : Cond.instanceMethod yX10_init ∈ gx_TB := List.mem_filter.mpr ⟨List.mem_append_right _ (List.mem_of_getElem? (i := 430) (by decide +kernel)), by decide +kernel⟩
set_option maxRecDepth 100000 in
theorem mi_431 : Cond.code yX10_init cX10_init 1 none ∈ gx_TB := List.mem_filter.mpr ⟨List.mem_append_right _ (List.mem_of_getElem? (i := 431) rfl), by decide +kernel⟩
def hcl : List Int32 := [1779033703, -1150833019, 1013904242, -1521486534, 1359893119, -1694144372, 528734635, 1541459225]
def kcl : List Int32 := [1116352408, 1899447441, -1245643825, -373957723, 961987163, 1508970993, -1841331548, -1424204075, -670586216, 310598401, 607225278, 1426881987, 1925078388, -2132889090, -1680079193, -1046744716, -459576895, -272742522, 264347078, 604807628, 770255983, 1249150122, 1555081692, 1996064986, -1740746414, -1473132947, -1341970488, -1084653625, -958395405, -710438585, 113926993, 338241895, 666307205, 773529912, 1294757372, 1396182291, 1695183700, 1986661051, -2117940946, -1838011259, -1564481375, -1474664885, -1035236496, -949202525, -778901479, -694614492, -200395387, 275423344, 430227734, 506948616, 659060556, 883997877, 958139571, 1322822218, 1537002063, 1747873779, 1955562222, 2024104815, -2067236844, -1933114872, -1866530822, -1538233109, -1090935817, -965641998]
def hcF (j : Nat) : Int32 := hcl.getD j 0
def kcF (j : Nat) : Int32 := kcl.getD j 0
theorem rh_hc : ∀ j, j < 8 → rh j = hcF j := by decide +kernel
theorem rk_kc : ∀ j, j < 64 → rk j = kcF j := by decide +kernel
abbrev tFS : Term := .static "PlainSeal$Sha256" "FIRST_STATE" "[I"
abbrev tRW : Term := .static "PlainSeal$Sha256" "ROUND_WORDS" "[I"
theorem fl60 : ∀ j, j < 8 → Cond.eq (Term.elem tFS (.int (Int32.ofNat j))) (.int (hcF j)) ∈ flatC (Jvm.Cond.and given_1 narrow_1) := by decide +kernel
theorem fl61 : ∀ j, j < 64 → Cond.eq (Term.elem tRW (.int (Int32.ofNat j))) (.int (kcF j)) ∈ flatC (Jvm.Cond.and given_1 narrow_1) := by decide +kernel
def u0 (f1 f2 : Nat → Int32) : gx_S := (fun _ _ => 0, fun _ _ => 0, fun o k => if o < 21 then rC o k else rM 23 o k, fun a => if a = 47 then f1 else if a = 50 then f2 else if a = 60 then hcF else if a = 61 then kcF else fun _ => 0)
theorem by0 {f1 f2 : Nat → Int32} (o a : Nat) (h1 : gx_isO o 0) (h2 : gx_r (u0 f1 f2) o 0 = a) (h3 : gx_isA a .byte) (h4 : gx_len a = 2000) : byL (u0 f1 f2) o [] := by
  refine ⟨h1, by rw [h2]; exact h3, by rw [h2]; exact h4, rfl, by simp, rdb_nil _⟩
theorem inv0 {f1 f2 : Nat → Int32} (h1 : ∀ j, j < 8 → f1 j = hcF j) (h2 : ∀ j, j < 64 → f2 j = kcF j) : Inv hcF kcF (u0 f1 f2) := by
  refine ⟨23, 0, [], [], [], [], ⟨fun o k ho => if_pos (by omega), by0 1 9 (isO_x 1 0 (by decide)) rfl ⟨by decide, rfl⟩ rfl, by0 2 10 (isO_x 2 0 (by decide)) rfl ⟨by decide, rfl⟩ rfl, ⟨by0 4 11 (isO_x 4 0 (by decide)) rfl ⟨by decide, rfl⟩ rfl, rfl, by omega, fun j hj => ?_⟩, by0 6 12 (isO_x 6 0 (by decide)) rfl ⟨by decide, rfl⟩ rfl⟩, ⟨Or.inl rfl, fun o k a _ => if_neg (by omega), ⟨rfl, by simp, rdb_nil _⟩, ⟨rfl, by simp, rdb_nil _⟩, Or.inl ⟨rfl, rfl⟩, ⟨0, rfl, by omega, fun _ => rfl, fun z => absurd rfl z, by simp, rdb_nil _, fun i hi => absurd hi (by omega)⟩, h1, h2⟩, fun z => absurd rfl z, rfl, rfl⟩
  have : j = 0 := by omega
  subst this
  rfl
def wsG (qx qm aq1 aq2 ak3 aq4 aq5 ak6 aq7 aq8 aq9 ak10 aq11 ak12 aq13 aq14 aq15 ak16 aq17 aq18 ak19 aq20 ak21 aq22 ak23 aq24 aq25 ak26 aq27 ak28 aq29 ak30 aq31 ak32 zq1 zk1 zq2 zk2 zq3 zk3 zq4 zk4 zq5 zk5 zq6 zk6 zq7 zk7 zq8 zk8 zq9 zk9 zq10 zq11 zk12 zq13 zq14 zk15 zq16 zk17 zq18 zk19 zq20 zq21 zk22 zq23 zq24 zk25 zq26 zk27 zq28 zk29 zq30 zq31 zk32 zq33 zk33 zq34 zq35 zk36 zq37 zk38 zq39 zk40 zq41 zk42 zq43 zk44 zq47 zk47 zq48 zk48 zq49 zk49 zq50 zk50 zq51 zk51 zq52 zk52 zq53 zk53 zq54 zk54 : Nat) (zf45 zf46 : Nat → Int32) : va_W := [(qx, .inr (5, [.ref aq1, .ref aq4, .ref aq7, .ref aq13, .ref aq17, .ref aq24])), (aq1, .inr (0, [.ref aq2, .int 0])), (aq4, .inr (0, [.ref aq5, .int 0])), (aq7, .inr (1, [.ref aq8, .ref aq11, .int 0])), (aq8, .inr (0, [.ref aq9, .int 0])), (aq13, .inr (4, [.ref aq14])), (aq14, .inr (0, [.ref aq15, .int 0])), (aq17, .inr (3, [.ref aq18, .ref aq20, .ref aq22])), (aq24, .inr (2, [.ref aq25, .ref aq27, .ref aq29, .ref aq31])), (aq2, .inl (ak3, 2000, .inl (fun _ => 0))), (aq5, .inl (ak6, 2000, .inl (fun _ => 0))), (aq9, .inl (ak10, 2000, .inl (fun _ => 0))), (aq15, .inl (ak16, 2000, .inl (fun _ => 0))), (aq11, .inl (ak12, 21, .inl (fun _ => 0))), (aq18, .inl (ak19, 8, .inl (fun _ => 0))), (aq20, .inl (ak21, 8, .inl (fun _ => 0))), (aq22, .inl (ak23, 64, .inl (fun _ => 0))), (aq25, .inl (ak26, 32, .inl (fun _ => 0))), (aq27, .inl (ak28, 32, .inl (fun _ => 0))), (aq29, .inl (ak30, 32, .inl (fun _ => 0))), (aq31, .inl (ak32, 64, .inl (fun _ => 0))), (qm, .inr (9, [.ref zq1, .int 0, .int 0, .ref zq2, .ref zq3, .ref zq4, .ref zq5, .ref zq6, .ref zq7, .ref zq8, .ref zq9, .int 0, .int 0, .int 0, .int 0, .ref zq10, .ref zq13, .ref zq23, .ref zq33, .ref zq34, .ref zq47, .ref zq48, .ref zq49, .ref zq50, .ref zq51, .ref zq52, .ref zq53, .ref zq54])), (zq10, .inr (8, [.ref zq11, .int 0])), (zq13, .inr (7, [.ref zq20, .ref zq14, .ref zq16, .ref zq18, .int 0])), (zq20, .inr (8, [.ref zq21, .int 0])), (zq23, .inr (7, [.ref zq30, .ref zq24, .ref zq26, .ref zq28, .int 0])), (zq30, .inr (8, [.ref zq31, .int 0])), (zq34, .inr (6, [.ref zq35, .ref zq37, .ref zq39, .ref zq41, .ref zq43, .int 0, .long 0])), (zq1, .inl (zk1, 2000, .inl (fun _ => 0))), (zq2, .inl (zk2, 4000, .inl (fun _ => 0))), (zq3, .inl (zk3, 2000, .inl (fun _ => 0))), (zq4, .inl (zk4, 21, .inl (fun _ => 0))), (zq5, .inl (zk5, 21, .inl (fun _ => 0))), (zq6, .inl (zk6, 21, .inl (fun _ => 0))), (zq7, .inl (zk7, 21, .inl (fun _ => 0))), (zq8, .inl (zk8, 21, .inl (fun _ => 0))), (zq9, .inl (zk9, 21, .inl (fun _ => 0))), (zq11, .inl (zk12, 4000, .inl (fun _ => 0))), (zq21, .inl (zk22, 2000, .inl (fun _ => 0))), (zq14, .inl (zk15, 40, .inl (fun _ => 0))), (zq16, .inl (zk17, 40, .inl (fun _ => 0))), (zq18, .inl (zk19, 40, .inl (fun _ => 0))), (zq31, .inl (zk32, 2000, .inl (fun _ => 0))), (zq24, .inl (zk25, 40, .inl (fun _ => 0))), (zq26, .inl (zk27, 40, .inl (fun _ => 0))), (zq28, .inl (zk29, 40, .inl (fun _ => 0))), (zq33, .inl (zk33, 900, .inl (fun _ => 0))), (zq35, .inl (zk36, 8, .inl zf45)), (zq37, .inl (zk38, 8, .inl (fun _ => 0))), (zq39, .inl (zk40, 64, .inl (fun _ => 0))), (zq41, .inl (zk42, 64, .inl zf46)), (zq43, .inl (zk44, 64, .inl (fun _ => 0))), (zq47, .inl (zk47, 33, .inl (fun _ => 0))), (zq48, .inl (zk48, 33, .inl (fun _ => 0))), (zq49, .inl (zk49, 33, .inl (fun _ => 0))), (zq50, .inl (zk50, 66, .inl (fun _ => 0))), (zq51, .inl (zk51, 33, .inl (fun _ => 0))), (zq52, .inl (zk52, 32, .inl (fun _ => 0))), (zq53, .inl (zk53, 64, .inl (fun _ => 0))), (zq54, .inl (zk54, 64, .inl (fun _ => 0)))]
def zG (dC : Nat → ClassId) (dI : Nat → Nat → Nat) (qx qm aq1 aq2 ak3 aq4 aq5 ak6 aq7 aq8 aq9 ak10 aq11 ak12 aq13 aq14 aq15 ak16 aq17 aq18 ak19 aq20 ak21 aq22 ak23 aq24 aq25 ak26 aq27 ak28 aq29 ak30 aq31 ak32 zq1 zk1 zq2 zk2 zq3 zk3 zq4 zk4 zq5 zk5 zq6 zk6 zq7 zk7 zq8 zk8 zq9 zk9 zq10 zq11 zk12 zq13 zq14 zk15 zq16 zk17 zq18 zk19 zq20 zq21 zk22 zq23 zq24 zk25 zq26 zk27 zq28 zk29 zq30 zq31 zk32 zq33 zk33 zq34 zq35 zk36 zq37 zk38 zq39 zk40 zq41 zk42 zq43 zk44 zq47 zk47 zq48 zk48 zq49 zk49 zq50 zk50 zq51 zk51 zq52 zk52 zq53 zk53 zq54 zk54 t60 t61 : Nat) (c60 c61 : Cell) : gx_Z := ((dC, dI), (fun i => ([qx, aq1, aq4, aq7, aq8, aq13, aq14, aq17, aq24, aq2, aq5, aq9, aq15, aq11, aq18, aq20, aq22, aq25, aq27, aq29, aq31, qm, zq10, zq13, zq20, zq23, zq30, zq34, zq1, zq2, zq3, zq4, zq5, zq6, zq7, zq8, zq9, zq11, zq21, zq14, zq16, zq18, zq31, zq24, zq26, zq28, zq33, zq35, zq37, zq39, zq41, zq43, zq47, zq48, zq49, zq50, zq51, zq52, zq53, zq54, t60, t61] : List Nat).getD i 0), (fun i => ([0, 0, 0, 0, 0, 0, 0, 0, 0, ak3, ak6, ak10, ak16, ak12, ak19, ak21, ak23, ak26, ak28, ak30, ak32, 0, 0, 0, 0, 0, 0, 0, zk1, zk2, zk3, zk4, zk5, zk6, zk7, zk8, zk9, zk12, zk22, zk15, zk17, zk19, zk32, zk25, zk27, zk29, zk33, zk36, zk38, zk40, zk42, zk44, zk47, zk48, zk49, zk50, zk51, zk52, zk53, zk54, c60.cls, c61.cls] : List Nat).getD i 0))
set_option maxHeartbeats 4000000 in
set_option maxRecDepth 100000 in
theorem world0 {s : State} {H : Heap} {dC : Nat → ClassId} {dI : Nat → Nat → Nat} {qx qm aq1 aq2 ak3 aq4 aq5 ak6 aq7 aq8 aq9 ak10 aq11 ak12 aq13 aq14 aq15 ak16 aq17 aq18 ak19 aq20 ak21 aq22 ak23 aq24 aq25 ak26 aq27 ak28 aq29 ak30 aq31 ak32 zq1 zk1 zq2 zk2 zq3 zk3 zq4 zk4 zq5 zk5 zq6 zk6 zq7 zk7 zq8 zk8 zq9 zk9 zq10 zq11 zk12 zq13 zq14 zk15 zq16 zk17 zq18 zk19 zq20 zq21 zk22 zq23 zq24 zk25 zq26 zk27 zq28 zk29 zq30 zq31 zk32 zq33 zk33 zq34 zq35 zk36 zq37 zk38 zq39 zk40 zq41 zk42 zq43 zk44 zq47 zk47 zq48 zk48 zq49 zk49 zq50 zk50 zq51 zk51 zq52 zk52 zq53 zk53 zq54 zk54 t60 t61 : Nat} {zf45 zf46 : Nat → Int32} {c60 c61 : Cell} (hP : va_P (dC, dI) classes (wsG qx qm aq1 aq2 ak3 aq4 aq5 ak6 aq7 aq8 aq9 ak10 aq11 ak12 aq13 aq14 aq15 ak16 aq17 aq18 ak19 aq20 ak21 aq22 ak23 aq24 aq25 ak26 aq27 ak28 aq29 ak30 aq31 ak32 zq1 zk1 zq2 zk2 zq3 zk3 zq4 zk4 zq5 zk5 zq6 zk6 zq7 zk7 zq8 zk8 zq9 zk9 zq10 zq11 zk12 zq13 zq14 zk15 zq16 zk17 zq18 zk19 zq20 zq21 zk22 zq23 zq24 zk25 zq26 zk27 zq28 zk29 zq30 zq31 zk32 zq33 zk33 zq34 zq35 zk36 zq37 zk38 zq39 zk40 zq41 zk42 zq43 zk44 zq47 zk47 zq48 zk48 zq49 zk49 zq50 zk50 zq51 zk51 zq52 zk52 zq53 zk53 zq54 zk54 zf45 zf46) H) (s60 : H[t60]? = some c60 ∧ s.isArrayOf c60 .int ∧ c60.vm ≠ .unknown ∧ (8 ≤ c60.slots.size ∧ c60.slots.size.toInt32 = Int32.ofNat 8) ∧ ∀ j, j < 8 → c60.slots[j]? = some (.int (hcF j))) (s61 : H[t61]? = some c61 ∧ s.isArrayOf c61 .int ∧ c61.vm ≠ .unknown ∧ (64 ≤ c61.slots.size ∧ c61.slots.size.toInt32 = Int32.ofNat 64) ∧ ∀ j, j < 64 → c61.slots[j]? = some (.int (kcF j))) : gx_W (zG dC dI qx qm aq1 aq2 ak3 aq4 aq5 ak6 aq7 aq8 aq9 ak10 aq11 ak12 aq13 aq14 aq15 ak16 aq17 aq18 ak19 aq20 ak21 aq22 ak23 aq24 aq25 ak26 aq27 ak28 aq29 ak30 aq31 ak32 zq1 zk1 zq2 zk2 zq3 zk3 zq4 zk4 zq5 zk5 zq6 zk6 zq7 zk7 zq8 zk8 zq9 zk9 zq10 zq11 zk12 zq13 zq14 zk15 zq16 zk17 zq18 zk19 zq20 zq21 zk22 zq23 zq24 zk25 zq26 zk27 zq28 zk29 zq30 zq31 zk32 zq33 zk33 zq34 zq35 zk36 zq37 zk38 zq39 zk40 zq41 zk42 zq43 zk44 zq47 zk47 zq48 zk48 zq49 zk49 zq50 zk50 zq51 zk51 zq52 zk52 zq53 zk53 zq54 zk54 t60 t61 c60 c61) (u0 zf45 zf46) H := by
  intro i hi
  have hi : i < 62 := hi
  match i, hi with
  | 0, _ =>
    obtain ⟨r, hr, ho⟩ := hP 0 _ rfl
    cases hr
    exact ho.to (fun k hk => by
      have hk : k < 6 := hk
      rcases (show k = 0 ∨ k = 1 ∨ k = 2 ∨ k = 3 ∨ k = 4 ∨ k = 5 by omega) with rfl | rfl | rfl | rfl | rfl | rfl <;> rfl)
  | 1, _ =>
    obtain ⟨r, hr, ho⟩ := hP 1 _ rfl
    cases hr
    exact ho.to (fun k hk => by
      have hk : k < 2 := hk
      rcases (show k = 0 ∨ k = 1 by omega) with rfl | rfl <;> rfl)
  | 2, _ =>
    obtain ⟨r, hr, ho⟩ := hP 2 _ rfl
    cases hr
    exact ho.to (fun k hk => by
      have hk : k < 2 := hk
      rcases (show k = 0 ∨ k = 1 by omega) with rfl | rfl <;> rfl)
  | 3, _ =>
    obtain ⟨r, hr, ho⟩ := hP 3 _ rfl
    cases hr
    exact ho.to (fun k hk => by
      have hk : k < 3 := hk
      rcases (show k = 0 ∨ k = 1 ∨ k = 2 by omega) with rfl | rfl | rfl <;> rfl)
  | 4, _ =>
    obtain ⟨r, hr, ho⟩ := hP 4 _ rfl
    cases hr
    exact ho.to (fun k hk => by
      have hk : k < 2 := hk
      rcases (show k = 0 ∨ k = 1 by omega) with rfl | rfl <;> rfl)
  | 5, _ =>
    obtain ⟨r, hr, ho⟩ := hP 5 _ rfl
    cases hr
    exact ho.to (fun k hk => by
      have hk : k < 1 := hk
      rcases (show k = 0 by omega) with rfl <;> rfl)
  | 6, _ =>
    obtain ⟨r, hr, ho⟩ := hP 6 _ rfl
    cases hr
    exact ho.to (fun k hk => by
      have hk : k < 2 := hk
      rcases (show k = 0 ∨ k = 1 by omega) with rfl | rfl <;> rfl)
  | 7, _ =>
    obtain ⟨r, hr, ho⟩ := hP 7 _ rfl
    cases hr
    exact ho.to (fun k hk => by
      have hk : k < 3 := hk
      rcases (show k = 0 ∨ k = 1 ∨ k = 2 by omega) with rfl | rfl | rfl <;> rfl)
  | 8, _ =>
    obtain ⟨r, hr, ho⟩ := hP 8 _ rfl
    cases hr
    exact ho.to (fun k hk => by
      have hk : k < 4 := hk
      rcases (show k = 0 ∨ k = 1 ∨ k = 2 ∨ k = 3 by omega) with rfl | rfl | rfl | rfl <;> rfl)
  | 9, _ => exact gx_at.mk (q := (2000, .byte)) rfl (by decide) (fun _ _ => rfl) (hP 9 _ rfl)
  | 10, _ => exact gx_at.mk (q := (2000, .byte)) rfl (by decide) (fun _ _ => rfl) (hP 10 _ rfl)
  | 11, _ => exact gx_at.mk (q := (2000, .byte)) rfl (by decide) (fun _ _ => rfl) (hP 11 _ rfl)
  | 12, _ => exact gx_at.mk (q := (2000, .byte)) rfl (by decide) (fun _ _ => rfl) (hP 12 _ rfl)
  | 13, _ => exact gx_at.mk (q := (21, .int)) rfl (by decide) (fun _ _ => rfl) (hP 13 _ rfl)
  | 14, _ => exact gx_at.mk (q := (8, .int)) rfl (by decide) (fun _ _ => rfl) (hP 14 _ rfl)
  | 15, _ => exact gx_at.mk (q := (8, .int)) rfl (by decide) (fun _ _ => rfl) (hP 15 _ rfl)
  | 16, _ => exact gx_at.mk (q := (64, .int)) rfl (by decide) (fun _ _ => rfl) (hP 16 _ rfl)
  | 17, _ => exact gx_at.mk (q := (32, .int)) rfl (by decide) (fun _ _ => rfl) (hP 17 _ rfl)
  | 18, _ => exact gx_at.mk (q := (32, .int)) rfl (by decide) (fun _ _ => rfl) (hP 18 _ rfl)
  | 19, _ => exact gx_at.mk (q := (32, .int)) rfl (by decide) (fun _ _ => rfl) (hP 19 _ rfl)
  | 20, _ => exact gx_at.mk (q := (64, .int)) rfl (by decide) (fun _ _ => rfl) (hP 20 _ rfl)
  | 21, _ =>
    obtain ⟨r, hr, ho⟩ := hP 21 _ rfl
    cases hr
    exact ho.to (fun k hk => by
      have hk : k < 28 := hk
      rcases (show k = 0 ∨ k = 1 ∨ k = 2 ∨ k = 3 ∨ k = 4 ∨ k = 5 ∨ k = 6 ∨ k = 7 ∨ k = 8 ∨ k = 9 ∨ k = 10 ∨ k = 11 ∨ k = 12 ∨ k = 13 ∨ k = 14 ∨ k = 15 ∨ k = 16 ∨ k = 17 ∨ k = 18 ∨ k = 19 ∨ k = 20 ∨ k = 21 ∨ k = 22 ∨ k = 23 ∨ k = 24 ∨ k = 25 ∨ k = 26 ∨ k = 27 by omega) with rfl | rfl | rfl | rfl | rfl | rfl | rfl | rfl | rfl | rfl | rfl | rfl | rfl | rfl | rfl | rfl | rfl | rfl | rfl | rfl | rfl | rfl | rfl | rfl | rfl | rfl | rfl | rfl <;> rfl)
  | 22, _ =>
    obtain ⟨r, hr, ho⟩ := hP 22 _ rfl
    cases hr
    exact ho.to (fun k hk => by
      have hk : k < 2 := hk
      rcases (show k = 0 ∨ k = 1 by omega) with rfl | rfl <;> rfl)
  | 23, _ =>
    obtain ⟨r, hr, ho⟩ := hP 23 _ rfl
    cases hr
    exact ho.to (fun k hk => by
      have hk : k < 5 := hk
      rcases (show k = 0 ∨ k = 1 ∨ k = 2 ∨ k = 3 ∨ k = 4 by omega) with rfl | rfl | rfl | rfl | rfl <;> rfl)
  | 24, _ =>
    obtain ⟨r, hr, ho⟩ := hP 24 _ rfl
    cases hr
    exact ho.to (fun k hk => by
      have hk : k < 2 := hk
      rcases (show k = 0 ∨ k = 1 by omega) with rfl | rfl <;> rfl)
  | 25, _ =>
    obtain ⟨r, hr, ho⟩ := hP 25 _ rfl
    cases hr
    exact ho.to (fun k hk => by
      have hk : k < 5 := hk
      rcases (show k = 0 ∨ k = 1 ∨ k = 2 ∨ k = 3 ∨ k = 4 by omega) with rfl | rfl | rfl | rfl | rfl <;> rfl)
  | 26, _ =>
    obtain ⟨r, hr, ho⟩ := hP 26 _ rfl
    cases hr
    exact ho.to (fun k hk => by
      have hk : k < 2 := hk
      rcases (show k = 0 ∨ k = 1 by omega) with rfl | rfl <;> rfl)
  | 27, _ =>
    obtain ⟨r, hr, ho⟩ := hP 27 _ rfl
    cases hr
    exact ho.to (fun k hk => by
      have hk : k < 7 := hk
      rcases (show k = 0 ∨ k = 1 ∨ k = 2 ∨ k = 3 ∨ k = 4 ∨ k = 5 ∨ k = 6 by omega) with rfl | rfl | rfl | rfl | rfl | rfl | rfl <;> rfl)
  | 28, _ => exact gx_at.mk (q := (2000, .byte)) rfl (by decide) (fun _ _ => rfl) (hP 28 _ rfl)
  | 29, _ => exact gx_at.mk (q := (4000, .byte)) rfl (by decide) (fun _ _ => rfl) (hP 29 _ rfl)
  | 30, _ => exact gx_at.mk (q := (2000, .byte)) rfl (by decide) (fun _ _ => rfl) (hP 30 _ rfl)
  | 31, _ => exact gx_at.mk (q := (21, .int)) rfl (by decide) (fun _ _ => rfl) (hP 31 _ rfl)
  | 32, _ => exact gx_at.mk (q := (21, .int)) rfl (by decide) (fun _ _ => rfl) (hP 32 _ rfl)
  | 33, _ => exact gx_at.mk (q := (21, .int)) rfl (by decide) (fun _ _ => rfl) (hP 33 _ rfl)
  | 34, _ => exact gx_at.mk (q := (21, .int)) rfl (by decide) (fun _ _ => rfl) (hP 34 _ rfl)
  | 35, _ => exact gx_at.mk (q := (21, .int)) rfl (by decide) (fun _ _ => rfl) (hP 35 _ rfl)
  | 36, _ => exact gx_at.mk (q := (21, .int)) rfl (by decide) (fun _ _ => rfl) (hP 36 _ rfl)
  | 37, _ => exact gx_at.mk (q := (4000, .byte)) rfl (by decide) (fun _ _ => rfl) (hP 37 _ rfl)
  | 38, _ => exact gx_at.mk (q := (2000, .byte)) rfl (by decide) (fun _ _ => rfl) (hP 38 _ rfl)
  | 39, _ => exact gx_at.mk (q := (40, .int)) rfl (by decide) (fun _ _ => rfl) (hP 39 _ rfl)
  | 40, _ => exact gx_at.mk (q := (40, .int)) rfl (by decide) (fun _ _ => rfl) (hP 40 _ rfl)
  | 41, _ => exact gx_at.mk (q := (40, .int)) rfl (by decide) (fun _ _ => rfl) (hP 41 _ rfl)
  | 42, _ => exact gx_at.mk (q := (2000, .byte)) rfl (by decide) (fun _ _ => rfl) (hP 42 _ rfl)
  | 43, _ => exact gx_at.mk (q := (40, .int)) rfl (by decide) (fun _ _ => rfl) (hP 43 _ rfl)
  | 44, _ => exact gx_at.mk (q := (40, .int)) rfl (by decide) (fun _ _ => rfl) (hP 44 _ rfl)
  | 45, _ => exact gx_at.mk (q := (40, .int)) rfl (by decide) (fun _ _ => rfl) (hP 45 _ rfl)
  | 46, _ => exact gx_at.mk (q := (900, .byte)) rfl (by decide) (fun _ _ => rfl) (hP 46 _ rfl)
  | 47, _ => exact gx_at.mk (q := (8, .int)) rfl (by decide) (fun _ _ => rfl) (hP 47 _ rfl)
  | 48, _ => exact gx_at.mk (q := (8, .int)) rfl (by decide) (fun _ _ => rfl) (hP 48 _ rfl)
  | 49, _ => exact gx_at.mk (q := (64, .int)) rfl (by decide) (fun _ _ => rfl) (hP 49 _ rfl)
  | 50, _ => exact gx_at.mk (q := (64, .int)) rfl (by decide) (fun _ _ => rfl) (hP 50 _ rfl)
  | 51, _ => exact gx_at.mk (q := (64, .byte)) rfl (by decide) (fun _ _ => rfl) (hP 51 _ rfl)
  | 52, _ => exact gx_at.mk (q := (33, .int)) rfl (by decide) (fun _ _ => rfl) (hP 52 _ rfl)
  | 53, _ => exact gx_at.mk (q := (33, .int)) rfl (by decide) (fun _ _ => rfl) (hP 53 _ rfl)
  | 54, _ => exact gx_at.mk (q := (33, .int)) rfl (by decide) (fun _ _ => rfl) (hP 54 _ rfl)
  | 55, _ => exact gx_at.mk (q := (66, .int)) rfl (by decide) (fun _ _ => rfl) (hP 55 _ rfl)
  | 56, _ => exact gx_at.mk (q := (33, .int)) rfl (by decide) (fun _ _ => rfl) (hP 56 _ rfl)
  | 57, _ => exact gx_at.mk (q := (32, .byte)) rfl (by decide) (fun _ _ => rfl) (hP 57 _ rfl)
  | 58, _ => exact gx_at.mk (q := (64, .byte)) rfl (by decide) (fun _ _ => rfl) (hP 58 _ rfl)
  | 59, _ => exact gx_at.mk (q := (64, .byte)) rfl (by decide) (fun _ _ => rfl) (hP 59 _ rfl)
  | 60, _ => exact ⟨fun _ _ => rfl, fun h => absurd h (by decide), fun _ => ⟨c60, s60.1, rfl, s60.2.2.1, s60.2.1.1, s60.2.2.2.1, s60.2.2.2.2⟩⟩
  | 61, _ => exact ⟨fun _ _ => rfl, fun h => absurd h (by decide), fun _ => ⟨c61, s61.1, rfl, s61.2.2.1, s61.2.1.1, s61.2.2.2.1, s61.2.2.2.2⟩⟩
  | n + 62, h => exact absurd h (by omega)
set_option maxHeartbeats 4000000 in
set_option maxRecDepth 100000 in
theorem arrs0 {s : State} {H : Heap} {dC : Nat → ClassId} {dI : Nat → Nat → Nat} {qx qm aq1 aq2 ak3 aq4 aq5 ak6 aq7 aq8 aq9 ak10 aq11 ak12 aq13 aq14 aq15 ak16 aq17 aq18 ak19 aq20 ak21 aq22 ak23 aq24 aq25 ak26 aq27 ak28 aq29 ak30 aq31 ak32 zq1 zk1 zq2 zk2 zq3 zk3 zq4 zk4 zq5 zk5 zq6 zk6 zq7 zk7 zq8 zk8 zq9 zk9 zq10 zq11 zk12 zq13 zq14 zk15 zq16 zk17 zq18 zk19 zq20 zq21 zk22 zq23 zq24 zk25 zq26 zk27 zq28 zk29 zq30 zq31 zk32 zq33 zk33 zq34 zq35 zk36 zq37 zk38 zq39 zk40 zq41 zk42 zq43 zk44 zq47 zk47 zq48 zk48 zq49 zk49 zq50 zk50 zq51 zk51 zq52 zk52 zq53 zk53 zq54 zk54 t60 t61 : Nat} {zf45 zf46 : Nat → Int32} {c60 c61 : Cell} (hK : va_K (dC, dI) classes [(ak3, .byte), (ak6, .byte), (ak10, .byte), (ak12, .int), (ak16, .byte), (ak19, .int), (ak21, .int), (ak23, .int), (ak26, .int), (ak28, .int), (ak30, .int), (ak32, .int), (zk1, .byte), (zk2, .byte), (zk3, .byte), (zk4, .int), (zk5, .int), (zk6, .int), (zk7, .int), (zk8, .int), (zk9, .int), (zk12, .byte), (zk15, .int), (zk17, .int), (zk19, .int), (zk22, .byte), (zk25, .int), (zk27, .int), (zk29, .int), (zk32, .byte), (zk33, .byte), (zk36, .int), (zk38, .int), (zk40, .int), (zk42, .int), (zk44, .byte), (zk47, .int), (zk48, .int), (zk49, .int), (zk50, .int), (zk51, .int), (zk52, .byte), (zk53, .byte), (zk54, .byte)] s) (s60 : H[t60]? = some c60 ∧ s.isArrayOf c60 .int ∧ c60.vm ≠ .unknown ∧ (8 ≤ c60.slots.size ∧ c60.slots.size.toInt32 = Int32.ofNat 8) ∧ ∀ j, j < 8 → c60.slots[j]? = some (.int (hcF j))) (s61 : H[t61]? = some c61 ∧ s.isArrayOf c61 .int ∧ c61.vm ≠ .unknown ∧ (64 ≤ c61.slots.size ∧ c61.slots.size.toInt32 = Int32.ofNat 64) ∧ ∀ j, j < 64 → c61.slots[j]? = some (.int (kcF j))) : ∀ (i : Nat) (q : Nat × FieldType), i < gx_N → gx_kd i = .inl q → ∃ k, s.vm.classes[(zG dC dI qx qm aq1 aq2 ak3 aq4 aq5 ak6 aq7 aq8 aq9 ak10 aq11 ak12 aq13 aq14 aq15 ak16 aq17 aq18 ak19 aq20 ak21 aq22 ak23 aq24 aq25 ak26 aq27 ak28 aq29 ak30 aq31 ak32 zq1 zk1 zq2 zk2 zq3 zk3 zq4 zk4 zq5 zk5 zq6 zk6 zq7 zk7 zq8 zk8 zq9 zk9 zq10 zq11 zk12 zq13 zq14 zk15 zq16 zk17 zq18 zk19 zq20 zq21 zk22 zq23 zq24 zk25 zq26 zk27 zq28 zk29 zq30 zq31 zk32 zq33 zk33 zq34 zq35 zk36 zq37 zk38 zq39 zk40 zq41 zk42 zq43 zk44 zq47 zk47 zq48 zk48 zq49 zk49 zq50 zk50 zq51 zk51 zq52 zk52 zq53 zk53 zq54 zk54 t60 t61 c60 c61).2.2 i]? = some k ∧ ∃ comp, k.kind = .array comp q.2 := by
  intro i q hi hq
  have hi : i < 62 := hi
  match i, hi with
  | 0, _ => cases hq
  | 1, _ => cases hq
  | 2, _ => cases hq
  | 3, _ => cases hq
  | 4, _ => cases hq
  | 5, _ => cases hq
  | 6, _ => cases hq
  | 7, _ => cases hq
  | 8, _ => cases hq
  | 9, _ => cases hq; exact ((hK.2 0 _ rfl).1 0 (fun _ => .null)).2
  | 10, _ => cases hq; exact ((hK.2 1 _ rfl).1 0 (fun _ => .null)).2
  | 11, _ => cases hq; exact ((hK.2 2 _ rfl).1 0 (fun _ => .null)).2
  | 12, _ => cases hq; exact ((hK.2 4 _ rfl).1 0 (fun _ => .null)).2
  | 13, _ => cases hq; exact ((hK.2 3 _ rfl).1 0 (fun _ => .null)).2
  | 14, _ => cases hq; exact ((hK.2 5 _ rfl).1 0 (fun _ => .null)).2
  | 15, _ => cases hq; exact ((hK.2 6 _ rfl).1 0 (fun _ => .null)).2
  | 16, _ => cases hq; exact ((hK.2 7 _ rfl).1 0 (fun _ => .null)).2
  | 17, _ => cases hq; exact ((hK.2 8 _ rfl).1 0 (fun _ => .null)).2
  | 18, _ => cases hq; exact ((hK.2 9 _ rfl).1 0 (fun _ => .null)).2
  | 19, _ => cases hq; exact ((hK.2 10 _ rfl).1 0 (fun _ => .null)).2
  | 20, _ => cases hq; exact ((hK.2 11 _ rfl).1 0 (fun _ => .null)).2
  | 21, _ => cases hq
  | 22, _ => cases hq
  | 23, _ => cases hq
  | 24, _ => cases hq
  | 25, _ => cases hq
  | 26, _ => cases hq
  | 27, _ => cases hq
  | 28, _ => cases hq; exact ((hK.2 12 _ rfl).1 0 (fun _ => .null)).2
  | 29, _ => cases hq; exact ((hK.2 13 _ rfl).1 0 (fun _ => .null)).2
  | 30, _ => cases hq; exact ((hK.2 14 _ rfl).1 0 (fun _ => .null)).2
  | 31, _ => cases hq; exact ((hK.2 15 _ rfl).1 0 (fun _ => .null)).2
  | 32, _ => cases hq; exact ((hK.2 16 _ rfl).1 0 (fun _ => .null)).2
  | 33, _ => cases hq; exact ((hK.2 17 _ rfl).1 0 (fun _ => .null)).2
  | 34, _ => cases hq; exact ((hK.2 18 _ rfl).1 0 (fun _ => .null)).2
  | 35, _ => cases hq; exact ((hK.2 19 _ rfl).1 0 (fun _ => .null)).2
  | 36, _ => cases hq; exact ((hK.2 20 _ rfl).1 0 (fun _ => .null)).2
  | 37, _ => cases hq; exact ((hK.2 21 _ rfl).1 0 (fun _ => .null)).2
  | 38, _ => cases hq; exact ((hK.2 25 _ rfl).1 0 (fun _ => .null)).2
  | 39, _ => cases hq; exact ((hK.2 22 _ rfl).1 0 (fun _ => .null)).2
  | 40, _ => cases hq; exact ((hK.2 23 _ rfl).1 0 (fun _ => .null)).2
  | 41, _ => cases hq; exact ((hK.2 24 _ rfl).1 0 (fun _ => .null)).2
  | 42, _ => cases hq; exact ((hK.2 29 _ rfl).1 0 (fun _ => .null)).2
  | 43, _ => cases hq; exact ((hK.2 26 _ rfl).1 0 (fun _ => .null)).2
  | 44, _ => cases hq; exact ((hK.2 27 _ rfl).1 0 (fun _ => .null)).2
  | 45, _ => cases hq; exact ((hK.2 28 _ rfl).1 0 (fun _ => .null)).2
  | 46, _ => cases hq; exact ((hK.2 30 _ rfl).1 0 (fun _ => .null)).2
  | 47, _ => cases hq; exact ((hK.2 31 _ rfl).1 0 (fun _ => .null)).2
  | 48, _ => cases hq; exact ((hK.2 32 _ rfl).1 0 (fun _ => .null)).2
  | 49, _ => cases hq; exact ((hK.2 33 _ rfl).1 0 (fun _ => .null)).2
  | 50, _ => cases hq; exact ((hK.2 34 _ rfl).1 0 (fun _ => .null)).2
  | 51, _ => cases hq; exact ((hK.2 35 _ rfl).1 0 (fun _ => .null)).2
  | 52, _ => cases hq; exact ((hK.2 36 _ rfl).1 0 (fun _ => .null)).2
  | 53, _ => cases hq; exact ((hK.2 37 _ rfl).1 0 (fun _ => .null)).2
  | 54, _ => cases hq; exact ((hK.2 38 _ rfl).1 0 (fun _ => .null)).2
  | 55, _ => cases hq; exact ((hK.2 39 _ rfl).1 0 (fun _ => .null)).2
  | 56, _ => cases hq; exact ((hK.2 40 _ rfl).1 0 (fun _ => .null)).2
  | 57, _ => cases hq; exact ((hK.2 41 _ rfl).1 0 (fun _ => .null)).2
  | 58, _ => cases hq; exact ((hK.2 42 _ rfl).1 0 (fun _ => .null)).2
  | 59, _ => cases hq; exact ((hK.2 43 _ rfl).1 0 (fun _ => .null)).2
  | 60, _ => cases hq; exact s60.2.1.2
  | 61, _ => cases hq; exact s61.2.1.2
theorem inj0 {s : State} {H : Heap} {dC : Nat → ClassId} {dI : Nat → Nat → Nat} {qx qm aq1 aq2 ak3 aq4 aq5 ak6 aq7 aq8 aq9 ak10 aq11 ak12 aq13 aq14 aq15 ak16 aq17 aq18 ak19 aq20 ak21 aq22 ak23 aq24 aq25 ak26 aq27 ak28 aq29 ak30 aq31 ak32 zq1 zk1 zq2 zk2 zq3 zk3 zq4 zk4 zq5 zk5 zq6 zk6 zq7 zk7 zq8 zk8 zq9 zk9 zq10 zq11 zk12 zq13 zq14 zk15 zq16 zk17 zq18 zk19 zq20 zq21 zk22 zq23 zq24 zk25 zq26 zk27 zq28 zk29 zq30 zq31 zk32 zq33 zk33 zq34 zq35 zk36 zq37 zk38 zq39 zk40 zq41 zk42 zq43 zk44 zq47 zk47 zq48 zk48 zq49 zk49 zq50 zk50 zq51 zk51 zq52 zk52 zq53 zk53 zq54 zk54 t60 t61 : Nat} {zf45 zf46 : Nat → Int32} {c60 c61 : Cell} (hD : va_D (fun q : Nat => s.heap.size ≤ q) (wsG qx qm aq1 aq2 ak3 aq4 aq5 ak6 aq7 aq8 aq9 ak10 aq11 ak12 aq13 aq14 aq15 ak16 aq17 aq18 ak19 aq20 ak21 aq22 ak23 aq24 aq25 ak26 aq27 ak28 aq29 ak30 aq31 ak32 zq1 zk1 zq2 zk2 zq3 zk3 zq4 zk4 zq5 zk5 zq6 zk6 zq7 zk7 zq8 zk8 zq9 zk9 zq10 zq11 zk12 zq13 zq14 zk15 zq16 zk17 zq18 zk19 zq20 zq21 zk22 zq23 zq24 zk25 zq26 zk27 zq28 zk29 zq30 zq31 zk32 zq33 zk33 zq34 zq35 zk36 zq37 zk38 zq39 zk40 zq41 zk42 zq43 zk44 zq47 zk47 zq48 zk48 zq49 zk49 zq50 zk50 zq51 zk51 zq52 zk52 zq53 zk53 zq54 zk54 zf45 zf46)) (h60 : t60 < s.heap.size) (h61 : t61 < s.heap.size) (hne : t60 ≠ t61) : (∀ i j, i < gx_N → j < gx_N → (zG dC dI qx qm aq1 aq2 ak3 aq4 aq5 ak6 aq7 aq8 aq9 ak10 aq11 ak12 aq13 aq14 aq15 ak16 aq17 aq18 ak19 aq20 ak21 aq22 ak23 aq24 aq25 ak26 aq27 ak28 aq29 ak30 aq31 ak32 zq1 zk1 zq2 zk2 zq3 zk3 zq4 zk4 zq5 zk5 zq6 zk6 zq7 zk7 zq8 zk8 zq9 zk9 zq10 zq11 zk12 zq13 zq14 zk15 zq16 zk17 zq18 zk19 zq20 zq21 zk22 zq23 zq24 zk25 zq26 zk27 zq28 zk29 zq30 zq31 zk32 zq33 zk33 zq34 zq35 zk36 zq37 zk38 zq39 zk40 zq41 zk42 zq43 zk44 zq47 zk47 zq48 zk48 zq49 zk49 zq50 zk50 zq51 zk51 zq52 zk52 zq53 zk53 zq54 zk54 t60 t61 c60 c61).2.1 i = (zG dC dI qx qm aq1 aq2 ak3 aq4 aq5 ak6 aq7 aq8 aq9 ak10 aq11 ak12 aq13 aq14 aq15 ak16 aq17 aq18 ak19 aq20 ak21 aq22 ak23 aq24 aq25 ak26 aq27 ak28 aq29 ak30 aq31 ak32 zq1 zk1 zq2 zk2 zq3 zk3 zq4 zk4 zq5 zk5 zq6 zk6 zq7 zk7 zq8 zk8 zq9 zk9 zq10 zq11 zk12 zq13 zq14 zk15 zq16 zk17 zq18 zk19 zq20 zq21 zk22 zq23 zq24 zk25 zq26 zk27 zq28 zk29 zq30 zq31 zk32 zq33 zk33 zq34 zq35 zk36 zq37 zk38 zq39 zk40 zq41 zk42 zq43 zk44 zq47 zk47 zq48 zk48 zq49 zk49 zq50 zk50 zq51 zk51 zq52 zk52 zq53 zk53 zq54 zk54 t60 t61 c60 c61).2.1 j → i = j) ∧ ∀ q, gx_A (zG dC dI qx qm aq1 aq2 ak3 aq4 aq5 ak6 aq7 aq8 aq9 ak10 aq11 ak12 aq13 aq14 aq15 ak16 aq17 aq18 ak19 aq20 ak21 aq22 ak23 aq24 aq25 ak26 aq27 ak28 aq29 ak30 aq31 ak32 zq1 zk1 zq2 zk2 zq3 zk3 zq4 zk4 zq5 zk5 zq6 zk6 zq7 zk7 zq8 zk8 zq9 zk9 zq10 zq11 zk12 zq13 zq14 zk15 zq16 zk17 zq18 zk19 zq20 zq21 zk22 zq23 zq24 zk25 zq26 zk27 zq28 zk29 zq30 zq31 zk32 zq33 zk33 zq34 zq35 zk36 zq37 zk38 zq39 zk40 zq41 zk42 zq43 zk44 zq47 zk47 zq48 zk48 zq49 zk49 zq50 zk50 zq51 zk51 zq52 zk52 zq53 zk53 zq54 zk54 t60 t61 c60 c61) q → s.heap.size ≤ q := by
  have hl : (wsG qx qm aq1 aq2 ak3 aq4 aq5 ak6 aq7 aq8 aq9 ak10 aq11 ak12 aq13 aq14 aq15 ak16 aq17 aq18 ak19 aq20 ak21 aq22 ak23 aq24 aq25 ak26 aq27 ak28 aq29 ak30 aq31 ak32 zq1 zk1 zq2 zk2 zq3 zk3 zq4 zk4 zq5 zk5 zq6 zk6 zq7 zk7 zq8 zk8 zq9 zk9 zq10 zq11 zk12 zq13 zq14 zk15 zq16 zk17 zq18 zk19 zq20 zq21 zk22 zq23 zq24 zk25 zq26 zk27 zq28 zk29 zq30 zq31 zk32 zq33 zk33 zq34 zq35 zk36 zq37 zk38 zq39 zk40 zq41 zk42 zq43 zk44 zq47 zk47 zq48 zk48 zq49 zk49 zq50 zk50 zq51 zk51 zq52 zk52 zq53 zk53 zq54 zk54 zf45 zf46).length = 60 := rfl
  have ad : ∀ i, i < 60 → ∃ p, (wsG qx qm aq1 aq2 ak3 aq4 aq5 ak6 aq7 aq8 aq9 ak10 aq11 ak12 aq13 aq14 aq15 ak16 aq17 aq18 ak19 aq20 ak21 aq22 ak23 aq24 aq25 ak26 aq27 ak28 aq29 ak30 aq31 ak32 zq1 zk1 zq2 zk2 zq3 zk3 zq4 zk4 zq5 zk5 zq6 zk6 zq7 zk7 zq8 zk8 zq9 zk9 zq10 zq11 zk12 zq13 zq14 zk15 zq16 zk17 zq18 zk19 zq20 zq21 zk22 zq23 zq24 zk25 zq26 zk27 zq28 zk29 zq30 zq31 zk32 zq33 zk33 zq34 zq35 zk36 zq37 zk38 zq39 zk40 zq41 zk42 zq43 zk44 zq47 zk47 zq48 zk48 zq49 zk49 zq50 zk50 zq51 zk51 zq52 zk52 zq53 zk53 zq54 zk54 zf45 zf46)[i]? = some p ∧ (zG dC dI qx qm aq1 aq2 ak3 aq4 aq5 ak6 aq7 aq8 aq9 ak10 aq11 ak12 aq13 aq14 aq15 ak16 aq17 aq18 ak19 aq20 ak21 aq22 ak23 aq24 aq25 ak26 aq27 ak28 aq29 ak30 aq31 ak32 zq1 zk1 zq2 zk2 zq3 zk3 zq4 zk4 zq5 zk5 zq6 zk6 zq7 zk7 zq8 zk8 zq9 zk9 zq10 zq11 zk12 zq13 zq14 zk15 zq16 zk17 zq18 zk19 zq20 zq21 zk22 zq23 zq24 zk25 zq26 zk27 zq28 zk29 zq30 zq31 zk32 zq33 zk33 zq34 zq35 zk36 zq37 zk38 zq39 zk40 zq41 zk42 zq43 zk44 zq47 zk47 zq48 zk48 zq49 zk49 zq50 zk50 zq51 zk51 zq52 zk52 zq53 zk53 zq54 zk54 t60 t61 c60 c61).2.1 i = p.1 := fun i hi => by
    refine ⟨(wsG qx qm aq1 aq2 ak3 aq4 aq5 ak6 aq7 aq8 aq9 ak10 aq11 ak12 aq13 aq14 aq15 ak16 aq17 aq18 ak19 aq20 ak21 aq22 ak23 aq24 aq25 ak26 aq27 ak28 aq29 ak30 aq31 ak32 zq1 zk1 zq2 zk2 zq3 zk3 zq4 zk4 zq5 zk5 zq6 zk6 zq7 zk7 zq8 zk8 zq9 zk9 zq10 zq11 zk12 zq13 zq14 zk15 zq16 zk17 zq18 zk19 zq20 zq21 zk22 zq23 zq24 zk25 zq26 zk27 zq28 zk29 zq30 zq31 zk32 zq33 zk33 zq34 zq35 zk36 zq37 zk38 zq39 zk40 zq41 zk42 zq43 zk44 zq47 zk47 zq48 zk48 zq49 zk49 zq50 zk50 zq51 zk51 zq52 zk52 zq53 zk53 zq54 zk54 zf45 zf46)[i]'(by omega), List.getElem?_eq_getElem _, ?_⟩
    show (((wsG qx qm aq1 aq2 ak3 aq4 aq5 ak6 aq7 aq8 aq9 ak10 aq11 ak12 aq13 aq14 aq15 ak16 aq17 aq18 ak19 aq20 ak21 aq22 ak23 aq24 aq25 ak26 aq27 ak28 aq29 ak30 aq31 ak32 zq1 zk1 zq2 zk2 zq3 zk3 zq4 zk4 zq5 zk5 zq6 zk6 zq7 zk7 zq8 zk8 zq9 zk9 zq10 zq11 zk12 zq13 zq14 zk15 zq16 zk17 zq18 zk19 zq20 zq21 zk22 zq23 zq24 zk25 zq26 zk27 zq28 zk29 zq30 zq31 zk32 zq33 zk33 zq34 zq35 zk36 zq37 zk38 zq39 zk40 zq41 zk42 zq43 zk44 zq47 zk47 zq48 zk48 zq49 zk49 zq50 zk50 zq51 zk51 zq52 zk52 zq53 zk53 zq54 zk54 zf45 zf46).map Prod.fst) ++ [t60, t61]).getD i 0 = _
    rw [List.getD_eq_getElem?_getD, List.getElem?_append_left (by rw [List.length_map]; omega), List.getElem?_map, List.getElem?_eq_getElem (by omega)]
    rfl
  have lo : ∀ i, i < 60 → s.heap.size ≤ (zG dC dI qx qm aq1 aq2 ak3 aq4 aq5 ak6 aq7 aq8 aq9 ak10 aq11 ak12 aq13 aq14 aq15 ak16 aq17 aq18 ak19 aq20 ak21 aq22 ak23 aq24 aq25 ak26 aq27 ak28 aq29 ak30 aq31 ak32 zq1 zk1 zq2 zk2 zq3 zk3 zq4 zk4 zq5 zk5 zq6 zk6 zq7 zk7 zq8 zk8 zq9 zk9 zq10 zq11 zk12 zq13 zq14 zk15 zq16 zk17 zq18 zk19 zq20 zq21 zk22 zq23 zq24 zk25 zq26 zk27 zq28 zk29 zq30 zq31 zk32 zq33 zk33 zq34 zq35 zk36 zq37 zk38 zq39 zk40 zq41 zk42 zq43 zk44 zq47 zk47 zq48 zk48 zq49 zk49 zq50 zk50 zq51 zk51 zq52 zk52 zq53 zk53 zq54 zk54 t60 t61 c60 c61).2.1 i := fun i hi => by
    obtain ⟨p, h1, h2⟩ := ad i hi
    rw [h2]
    exact hD.2 i p h1
  have e60 : (zG dC dI qx qm aq1 aq2 ak3 aq4 aq5 ak6 aq7 aq8 aq9 ak10 aq11 ak12 aq13 aq14 aq15 ak16 aq17 aq18 ak19 aq20 ak21 aq22 ak23 aq24 aq25 ak26 aq27 ak28 aq29 ak30 aq31 ak32 zq1 zk1 zq2 zk2 zq3 zk3 zq4 zk4 zq5 zk5 zq6 zk6 zq7 zk7 zq8 zk8 zq9 zk9 zq10 zq11 zk12 zq13 zq14 zk15 zq16 zk17 zq18 zk19 zq20 zq21 zk22 zq23 zq24 zk25 zq26 zk27 zq28 zk29 zq30 zq31 zk32 zq33 zk33 zq34 zq35 zk36 zq37 zk38 zq39 zk40 zq41 zk42 zq43 zk44 zq47 zk47 zq48 zk48 zq49 zk49 zq50 zk50 zq51 zk51 zq52 zk52 zq53 zk53 zq54 zk54 t60 t61 c60 c61).2.1 60 = t60 := rfl
  have e61 : (zG dC dI qx qm aq1 aq2 ak3 aq4 aq5 ak6 aq7 aq8 aq9 ak10 aq11 ak12 aq13 aq14 aq15 ak16 aq17 aq18 ak19 aq20 ak21 aq22 ak23 aq24 aq25 ak26 aq27 ak28 aq29 ak30 aq31 ak32 zq1 zk1 zq2 zk2 zq3 zk3 zq4 zk4 zq5 zk5 zq6 zk6 zq7 zk7 zq8 zk8 zq9 zk9 zq10 zq11 zk12 zq13 zq14 zk15 zq16 zk17 zq18 zk19 zq20 zq21 zk22 zq23 zq24 zk25 zq26 zk27 zq28 zk29 zq30 zq31 zk32 zq33 zk33 zq34 zq35 zk36 zq37 zk38 zq39 zk40 zq41 zk42 zq43 zk44 zq47 zk47 zq48 zk48 zq49 zk49 zq50 zk50 zq51 zk51 zq52 zk52 zq53 zk53 zq54 zk54 t60 t61 c60 c61).2.1 61 = t61 := rfl
  generalize hz : (zG dC dI qx qm aq1 aq2 ak3 aq4 aq5 ak6 aq7 aq8 aq9 ak10 aq11 ak12 aq13 aq14 aq15 ak16 aq17 aq18 ak19 aq20 ak21 aq22 ak23 aq24 aq25 ak26 aq27 ak28 aq29 ak30 aq31 ak32 zq1 zk1 zq2 zk2 zq3 zk3 zq4 zk4 zq5 zk5 zq6 zk6 zq7 zk7 zq8 zk8 zq9 zk9 zq10 zq11 zk12 zq13 zq14 zk15 zq16 zk17 zq18 zk19 zq20 zq21 zk22 zq23 zq24 zk25 zq26 zk27 zq28 zk29 zq30 zq31 zk32 zq33 zk33 zq34 zq35 zk36 zq37 zk38 zq39 zk40 zq41 zk42 zq43 zk44 zq47 zk47 zq48 zk48 zq49 zk49 zq50 zk50 zq51 zk51 zq52 zk52 zq53 zk53 zq54 zk54 t60 t61 c60 c61) = Z at *
  refine ⟨fun i j hi hj he => ?_, fun q hq => ?_⟩
  · have hi : i < 62 := hi
    have hj : j < 62 := hj
    by_cases i6 : i < 60
    · by_cases j6 : j < 60
      · obtain ⟨p, h1, h2⟩ := ad i i6
        obtain ⟨p', h3, h4⟩ := ad j j6
        exact hD.1 i j p p' h1 h3 (by rw [← h2, ← h4]; exact he)
      · exfalso
        have := lo i i6
        rcases (show j = 60 ∨ j = 61 by omega) with rfl | rfl
        · rw [he, e60] at this; omega
        · rw [he, e61] at this; omega
    · by_cases j6 : j < 60
      · exfalso
        have := lo j j6
        rcases (show i = 60 ∨ i = 61 by omega) with rfl | rfl
        · rw [← he, e60] at this; omega
        · rw [← he, e61] at this; omega
      · rcases (show i = 60 ∨ i = 61 by omega) with rfl | rfl <;> rcases (show j = 60 ∨ j = 61 by omega) with rfl | rfl
        · rfl
        · rw [e60, e61] at he; exact absurd he hne
        · rw [e60, e61] at he; exact absurd he.symm hne
        · rfl
  · obtain ⟨i, hi, rfl⟩ := hq
    exact lo i hi
theorem nst_ok : ∀ q ∈ gx_nest, Cond.methodLinkNest q.1 q.2.1 q.2.2.1 q.2.2.2 ∈ lw_tbl := by decide +kernel
theorem ls60 : Cond.laysStatic "PlainSeal$Sha256" "FIRST_STATE" "[I" ∈ lw_tbl := List.mem_append_right _ (List.mem_of_getElem? (i := 336) (by decide +kernel))
theorem ls61 : Cond.laysStatic "PlainSeal$Sha256" "ROUND_WORDS" "[I" ∈ lw_tbl := List.mem_append_right _ (List.mem_of_getElem? (i := 359) (by decide +kernel))
