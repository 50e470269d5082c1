/-! ===== making, with the world named anew ===== -/
section XO
variable {v : xw_V} {κ : xk_K} {post : Option Value → xw_G → Prop} {z : Nat × Nat × Nat} {G : xw_G} {pc : Nat} {ls : List (Option Value)} {st : List Value} {y : MethodName} {cc : ByteArray} {nL : Nat} {ret : Option FieldType} {fr lo : Nat}
theorem xj_new2 (hk : xk_Ok v κ y cc nL ret fr lo) {idx ci g i N : Nat} {C : String} {T : u_T} {fs : List Value} {p : List va_E} (hd : decode cc pc = .ok (.new idx, 3)) (hcl : vwCl[ci]? = some (C, T, N)) (hl : Cond.classLink y.cls idx C ∈ xw_tbl) (hin : Cond.instantiable C N ∈ xw_tbl ∧ Cond.initialized C ∈ xw_tbl) (ty : Nat → FieldType) (hty : ∀ k, k < N → parseFieldDescriptor (T k).2.2.1 = some (ty k)) (hfs : ∀ j, j < N → defaultValue (ty j) = vp_V fs j) (hg : g < 22) (hp : G g = p) (hi : p.length = i) (hz1 : z.1 = xw_off g + i) (hf : z.2.1 + 1 ≤ (xk_zf κ).2.1 ∧ z.2.2 + N ≤ (xk_zf κ).2.2) (kk : ∀ G1 : xw_G, G1 g = p ++ [xw_eo ci fs] → (∀ q, q ≠ g → G1 q = G q) → xj v κ post (z.1 + 1, z.2.1 + 1, z.2.2 + N) G1 (pc + 3) ls (.ref (xw_ad v g i) :: st)) : xj v κ post z G pc ls st := by
  subst hp hi
  exact xj_new hk hd hcl hl hin.1 hin.2 ty hty hfs hg hz1 hf (kk _ xw_up_s (fun q h => xw_up_n h))
theorem ac_i : Cond.arrayClass .int ∈ xw_tbl := xw_inI 193 (by decide +kernel) rfl
theorem xj_newi2 (hk : xk_Ok v κ y cc nL ret fr lo) {g i N : Nat} {n : Int32} {p : List va_E} (hd : decode cc pc = .ok (.newarray .int, 2)) (hn : n = nI N) (hN : N ≤ 1000000) (hg : g < 22) (hp : G g = p) (hi : p.length = i) (hz1 : z.1 = xw_off g + i) (hf : z.2.1 + 1 ≤ (xk_zf κ).2.1 ∧ z.2.2 + N ≤ (xk_zf κ).2.2) (kk : ∀ G1 : xw_G, G1 g = p ++ [xw_ei v N (fun _ => 0)] → (∀ q, q ≠ g → G1 q = G q) → xj v κ post (z.1 + 1, z.2.1 + 1, z.2.2 + N) G1 (pc + 2) ls (.ref (xw_ad v g i) :: st)) : xj v κ post z G pc ls (.int n :: st) := by
  subst hp hi
  exact xj_newi hk hd ac_i hn hN hg hz1 hf (kk _ xw_up_s (fun q h => xw_up_n h))
theorem ac_l : Cond.arrayClass .long ∈ xw_tbl := xw_inI 194 (by decide +kernel) rfl
theorem xj_newl2 (hk : xk_Ok v κ y cc nL ret fr lo) {g i N : Nat} {n : Int32} {p : List va_E} (hd : decode cc pc = .ok (.newarray .long, 2)) (hn : n = nI N) (hN : N ≤ 1000000) (hg : g < 22) (hp : G g = p) (hi : p.length = i) (hz1 : z.1 = xw_off g + i) (hf : z.2.1 + 1 ≤ (xk_zf κ).2.1 ∧ z.2.2 + N ≤ (xk_zf κ).2.2) (kk : ∀ G1 : xw_G, G1 g = p ++ [xw_el v N (fun _ => 0)] → (∀ q, q ≠ g → G1 q = G q) → xj v κ post (z.1 + 1, z.2.1 + 1, z.2.2 + N) G1 (pc + 2) ls (.ref (xw_ad v g i) :: st)) : xj v κ post z G pc ls (.int n :: st) := by
  subst hp hi
  exact xj_newl hk hd ac_l hn hN hg hz1 hf (kk _ xw_up_s (fun q h => xw_up_n h))
theorem ac_z : Cond.arrayClass .boolean ∈ xw_tbl := xw_inI 1182 (by decide +kernel) rfl
theorem xj_newz2 (hk : xk_Ok v κ y cc nL ret fr lo) {g i N : Nat} {n : Int32} {p : List va_E} (hd : decode cc pc = .ok (.newarray .boolean, 2)) (hn : n = nI N) (hN : N ≤ 1000000) (hg : g < 22) (hp : G g = p) (hi : p.length = i) (hz1 : z.1 = xw_off g + i) (hf : z.2.1 + 1 ≤ (xk_zf κ).2.1 ∧ z.2.2 + N ≤ (xk_zf κ).2.2) (kk : ∀ G1 : xw_G, G1 g = p ++ [xw_ez v N (fun _ => 0)] → (∀ q, q ≠ g → G1 q = G q) → xj v κ post (z.1 + 1, z.2.1 + 1, z.2.2 + N) G1 (pc + 2) ls (.ref (xw_ad v g i) :: st)) : xj v κ post z G pc ls (.int n :: st) := by
  subst hp hi
  exact xj_newz hk hd ac_z hn hN hg hz1 hf (kk _ xw_up_s (fun q h => xw_up_n h))
theorem ac_b : Cond.arrayClass .byte ∈ xw_tbl := xw_inI 592 (by decide +kernel) rfl
theorem xj_newb2 (hk : xk_Ok v κ y cc nL ret fr lo) {g i N : Nat} {n : Int32} {p : List va_E} (hd : decode cc pc = .ok (.newarray .byte, 2)) (hn : n = nI N) (hN : N ≤ 1000000) (hg : g < 22) (hp : G g = p) (hi : p.length = i) (hz1 : z.1 = xw_off g + i) (hf : z.2.1 + 1 ≤ (xk_zf κ).2.1 ∧ z.2.2 + N ≤ (xk_zf κ).2.2) (kk : ∀ G1 : xw_G, G1 g = p ++ [xw_eb v N (fun _ => 0)] → (∀ q, q ≠ g → G1 q = G q) → xj v κ post (z.1 + 1, z.2.1 + 1, z.2.2 + N) G1 (pc + 2) ls (.ref (xw_ad v g i) :: st)) : xj v κ post z G pc ls (.int n :: st) := by
  subst hp hi
  exact xj_newb hk hd ac_b hn hN hg hz1 hf (kk _ xw_up_s (fun q h => xw_up_n h))
theorem xj_newq2 (hk : xk_Ok v κ y cc nL ret fr lo) {g i N idx : Nat} {n : Int32} {p : List va_E} (hd : decode cc pc = .ok (.anewarray idx, 3)) (hl : Cond.classLink y.cls idx "BillTender$Book" ∈ xw_tbl) (hn : n = nI N) (hN : N ≤ 1000000) (hg : g < 22) (hp : G g = p) (hi : p.length = i) (hz1 : z.1 = xw_off g + i) (hf : z.2.1 + 1 ≤ (xk_zf κ).2.1 ∧ z.2.2 + N ≤ (xk_zf κ).2.2) (kk : ∀ G1 : xw_G, G1 g = p ++ [xw_eq v N (fun _ => none)] → (∀ q, q ≠ g → G1 q = G q) → xj v κ post (z.1 + 1, z.2.1 + 1, z.2.2 + N) G1 (pc + 3) ls (.ref (xw_ad v g i) :: st)) : xj v κ post z G pc ls (.int n :: st) := by
  subst hp hi
  exact xj_newq hk hd hl hn hN hg hz1 hf (kk _ xw_up_s (fun q h => xw_up_n h))
theorem xj_putf2 (hk : xk_Ok v κ y cc nL ret fr lo) {idx ci k g i : Nat} {ty : FieldType} {fs : List Value} {x : Value} {p : List va_E} (hd : decode cc pc = .ok (.putfield idx, 3)) (hf : xk_FL y.cls idx ci k ty true) (hcn : vwCl[ci]?.map (fun q => q.1) = some y.cls) (hin2 : y.name = "<init>") (hgood : ∀ (C : String) (T : u_T) (N : Nat), vwCl[ci]? = some (C, T, N) → Cond.fieldLink y.cls idx C (T k).2.1 (T k).2.2.1 ∈ xw_tbl) (hn : narrow ty x = x) (hfit : fits ty x = true) (hp : G g = p) (hc : p[i]? = some (xw_eo ci fs)) (hx : k < fs.length) (kk : ∀ G1 : xw_G, G1 g = p.set i (xw_eo ci (fs.set k x)) → (∀ q, q ≠ g → G1 q = G q) → xj v κ post z G1 (pc + 3) ls st) : xj v κ post z G pc ls (x :: .ref (xw_ad v g i) :: st) := by
  subst hp
  exact xj_putfinal hk hd hf hcn hin2 hgood hn hfit hc hx rfl (kk _ xw_up_s (fun q h => xw_up_n h))
theorem xj_putn2 (hk : xk_Ok v κ y cc nL ret fr lo) {idx ci k g i : Nat} {ty : FieldType} {fs : List Value} {x : Value} {p : List va_E} (hd : decode cc pc = .ok (.putfield idx, 3)) (hf : xk_FL y.cls idx ci k ty false) (hn : narrow ty x = x) (hfit : fits ty x = true) (hp : G g = p) (hc : p[i]? = some (xw_eo ci fs)) (hx : k < fs.length) (kk : ∀ G1 : xw_G, G1 g = p.set i (xw_eo ci (fs.set k x)) → (∀ q, q ≠ g → G1 q = G q) → xj v κ post z G1 (pc + 3) ls st) : xj v κ post z G pc ls (x :: .ref (xw_ad v g i) :: st) := by
  subst hp
  exact xj_putfield hk hd hf hn hfit hc hx rfl (kk _ xw_up_s (fun q h => xw_up_n h))
theorem xj_aast2 (hk : xk_Ok v κ y cc nL ret fr lo) {g i k g1 i1 : Nat} {j : Int32} {n9 : Nat} {f : Nat → Option Nat} {fs : List Value} {p : List va_E} (hd : decode cc pc = .ok (.aastore, 1)) (hp : G g = p) (hc : p[i]? = some (xw_eq v n9 f)) (hv : (G g1)[i1]? = some (xw_eo 0 fs)) (hj : xi j k n9) (kk : ∀ G1 : xw_G, G1 g = p.set i (xw_eq v n9 (xu f k (some (xw_ad v g1 i1)))) → (∀ q, q ≠ g → G1 q = G q) → xj v κ post z G1 (pc + 1) ls st) : xj v κ post z G pc ls (.ref (xw_ad v g1 i1) :: .int j :: .ref (xw_ad v g i) :: st) := by
  subst hp
  exact xj_aastore hk hd hc hv hj rfl (kk _ xw_up_s (fun q h => xw_up_n h))
theorem xk_fit {a mc ms c n : Nat} (hz : xk_zf κ = (a, mc, ms)) (h1 : c ≤ mc) (h2 : n ≤ ms) : c ≤ (xk_zf κ).2.1 ∧ n ≤ (xk_zf κ).2.2 := by rw [hz]; exact ⟨h1, h2⟩
theorem xj.zz {z' : Nat × Nat × Nat} (h : z = z') (kk : xj v κ post z' G pc ls st) : xj v κ post z G pc ls st := h ▸ kk
theorem xk_gen {G2 : xw_G} (h : G = G2) (kk : ∀ G1 : xw_G, G1 = G2 → xj v κ post z G1 pc ls st) : xj v κ post z G pc ls st := kk _ h
end XO
set_option maxRecDepth 100000 in
theorem oi_2 : Cond.instanceMethod Lib.objectInit ∈ xw_tbl ∧ Cond.code Lib.objectInit ⟨#[0xb1]⟩ 1 none ∈ xw_tbl := ⟨xw_inI 157 (by decide +kernel) rfl, xw_inI 158 (by decide +kernel) rfl⟩
set_option maxRecDepth 100000 in
theorem oi_X7_1 : Cond.methodLink RX7 1 Lib.objectInit ∈ xw_tbl := xw_inI 156 (by decide +kernel) rfl
set_option maxRecDepth 100000 in
theorem oi_X0_3 : Cond.methodLink RX0 3 Lib.objectInit ∈ xw_tbl := xw_inI 164 (by decide +kernel) rfl
set_option maxRecDepth 100000 in
theorem oi_X1_3 : Cond.methodLink RX1 3 Lib.objectInit ∈ xw_tbl := xw_inI 170 (by decide +kernel) rfl
set_option maxRecDepth 100000 in
theorem oi_X2_3 : Cond.methodLink RX2 3 Lib.objectInit ∈ xw_tbl := xw_inI 326 (by decide +kernel) rfl
set_option maxRecDepth 100000 in
theorem oi_X3_3 : Cond.methodLink RX3 3 Lib.objectInit ∈ xw_tbl := xw_inI 361 (by decide +kernel) rfl
set_option maxRecDepth 100000 in
theorem oi_X4_3 : Cond.methodLink RX4 3 Lib.objectInit ∈ xw_tbl := xw_inI 257 (by decide +kernel) rfl
set_option maxRecDepth 100000 in
theorem oi_X5_3 : Cond.methodLink RX5 3 Lib.objectInit ∈ xw_tbl := xw_inI 383 (by decide +kernel) rfl
set_option maxRecDepth 100000 in
theorem oi_X6_3 : Cond.methodLink RX6 3 Lib.objectInit ∈ xw_tbl := xw_inI 346 (by decide +kernel) rfl
set_option maxRecDepth 100000 in
theorem oi_X8_7 : Cond.methodLink RX8 7 Lib.objectInit ∈ xw_tbl := xw_inI 1088 (by decide +kernel) rfl
set_option maxRecDepth 100000 in
theorem mn_X0 : Cond.instantiable RX0 8 ∈ xw_tbl ∧ Cond.initialized RX0 ∈ xw_tbl := ⟨xw_inI 160 (by decide +kernel) rfl, xw_inI 138 (by decide +kernel) rfl⟩
theorem df_X0 : ∀ j, j < 8 → defaultValue (tyX0 j) = vp_V ([.null, .null, .null, .null, .null, .null, .null, .int 0]) j := fun j hj => by
  match j, hj with
  | 0, _ => rfl
  | 1, _ => rfl
  | 2, _ => rfl
  | 3, _ => rfl
  | 4, _ => rfl
  | 5, _ => rfl
  | 6, _ => rfl
  | 7, _ => rfl
  | k + 8, h => exact absurd h (by omega)
set_option maxRecDepth 100000 in
theorem mn_X1 : Cond.instantiable RX1 5 ∈ xw_tbl ∧ Cond.initialized RX1 ∈ xw_tbl := ⟨xw_inI 166 (by decide +kernel) rfl, xw_inI 139 (by decide +kernel) rfl⟩
theorem df_X1 : ∀ j, j < 5 → defaultValue (tyX1 j) = vp_V ([.null, .null, .null, .null, .int 0]) j := fun j hj => by
  match j, hj with
  | 0, _ => rfl
  | 1, _ => rfl
  | 2, _ => rfl
  | 3, _ => rfl
  | 4, _ => rfl
  | k + 5, h => exact absurd h (by omega)
set_option maxRecDepth 100000 in
theorem mn_X2 : Cond.instantiable RX2 3 ∈ xw_tbl ∧ Cond.initialized RX2 ∈ xw_tbl := ⟨xw_inI 322 (by decide +kernel) rfl, xw_inI 141 (by decide +kernel) rfl⟩
theorem df_X2 : ∀ j, j < 3 → defaultValue (tyX2 j) = vp_V ([.null, .int 0, .int 0]) j := fun j hj => by
  match j, hj with
  | 0, _ => rfl
  | 1, _ => rfl
  | 2, _ => rfl
  | k + 3, h => exact absurd h (by omega)
set_option maxRecDepth 100000 in
theorem mn_X3 : Cond.instantiable RX3 5 ∈ xw_tbl ∧ Cond.initialized RX3 ∈ xw_tbl := ⟨xw_inI 357 (by decide +kernel) rfl, xw_inI 143 (by decide +kernel) rfl⟩
theorem df_X3 : ∀ j, j < 5 → defaultValue (tyX3 j) = vp_V ([.null, .null, .int 0, .int 0, .int 0]) j := fun j hj => by
  match j, hj with
  | 0, _ => rfl
  | 1, _ => rfl
  | 2, _ => rfl
  | 3, _ => rfl
  | 4, _ => rfl
  | k + 5, h => exact absurd h (by omega)
set_option maxRecDepth 100000 in
theorem mn_X4 : Cond.instantiable RX4 18 ∈ xw_tbl ∧ Cond.initialized RX4 ∈ xw_tbl := ⟨xw_inI 253 (by decide +kernel) rfl, xw_inI 140 (by decide +kernel) rfl⟩
theorem df_X4 : ∀ j, j < 18 → defaultValue (tyX4 j) = vp_V ([.null, .null, .null, .null, .null, .null, .null, .null, .int 0, .int 0, .int 0, .int 0, .int 0, .int 0, .int 0, .int 0, .int 0, .int 0]) j := fun j hj => by
  match j, hj with
  | 0, _ => rfl
  | 1, _ => rfl
  | 2, _ => rfl
  | 3, _ => rfl
  | 4, _ => rfl
  | 5, _ => rfl
  | 6, _ => rfl
  | 7, _ => rfl
  | 8, _ => rfl
  | 9, _ => rfl
  | 10, _ => rfl
  | 11, _ => rfl
  | 12, _ => rfl
  | 13, _ => rfl
  | 14, _ => rfl
  | 15, _ => rfl
  | 16, _ => rfl
  | 17, _ => rfl
  | k + 18, h => exact absurd h (by omega)
set_option maxRecDepth 100000 in
theorem mn_X5 : Cond.instantiable RX5 3 ∈ xw_tbl ∧ Cond.initialized RX5 ∈ xw_tbl := ⟨xw_inI 379 (by decide +kernel) rfl, xw_inI 144 (by decide +kernel) rfl⟩
theorem df_X5 : ∀ j, j < 3 → defaultValue (tyX5 j) = vp_V ([.int 0, .int 0, .int 0]) j := fun j hj => by
  match j, hj with
  | 0, _ => rfl
  | 1, _ => rfl
  | 2, _ => rfl
  | k + 3, h => exact absurd h (by omega)
set_option maxRecDepth 100000 in
theorem mn_X6 : Cond.instantiable RX6 2 ∈ xw_tbl ∧ Cond.initialized RX6 ∈ xw_tbl := ⟨xw_inI 342 (by decide +kernel) rfl, xw_inI 142 (by decide +kernel) rfl⟩
theorem df_X6 : ∀ j, j < 2 → defaultValue (tyX6 j) = vp_V ([.null, .int 0]) j := fun j hj => by
  match j, hj with
  | 0, _ => rfl
  | 1, _ => rfl
  | k + 2, h => exact absurd h (by omega)
set_option maxRecDepth 100000 in
theorem mn_X7 : Cond.instantiable RX7 8 ∈ xw_tbl ∧ Cond.initialized RX7 ∈ xw_tbl := ⟨xw_inI 152 (by decide +kernel) rfl, xw_inI 137 (by decide +kernel) rfl⟩
theorem df_X7 : ∀ j, j < 8 → defaultValue (tyX7 j) = vp_V ([.null, .null, .null, .null, .null, .null, .null, .null]) j := fun j hj => by
  match j, hj with
  | 0, _ => rfl
  | 1, _ => rfl
  | 2, _ => rfl
  | 3, _ => rfl
  | 4, _ => rfl
  | 5, _ => rfl
  | 6, _ => rfl
  | 7, _ => rfl
  | k + 8, h => exact absurd h (by omega)
set_option maxRecDepth 100000 in
theorem mn_X8 : Cond.instantiable RX8 30 ∈ xw_tbl ∧ Cond.initialized RX8 ∈ xw_tbl := ⟨xw_inI 1084 (by decide +kernel) rfl, xw_inI 145 (by decide +kernel) rfl⟩
theorem df_X8 : ∀ j, j < 30 → defaultValue (tyX8 j) = vp_V ([.int 0, .null, .null, .null, .null, .null, .null, .int 0, .null, .null, .null, .null, .null, .null, .int 0, .int 0, .int 0, .int 0, .int 0, .int 0, .null, .int 0, .null, .int 0, .null, .int 0, .int 0, .int 0, .int 0, .int 0]) j := fun j hj => by
  match j, hj with
  | 0, _ => rfl
  | 1, _ => rfl
  | 2, _ => rfl
  | 3, _ => rfl
  | 4, _ => rfl
  | 5, _ => rfl
  | 6, _ => rfl
  | 7, _ => rfl
  | 8, _ => rfl
  | 9, _ => rfl
  | 10, _ => rfl
  | 11, _ => rfl
  | 12, _ => rfl
  | 13, _ => rfl
  | 14, _ => rfl
  | 15, _ => rfl
  | 16, _ => rfl
  | 17, _ => rfl
  | 18, _ => rfl
  | 19, _ => rfl
  | 20, _ => rfl
  | 21, _ => rfl
  | 22, _ => rfl
  | 23, _ => rfl
  | 24, _ => rfl
  | 25, _ => rfl
  | 26, _ => rfl
  | 27, _ => rfl
  | 28, _ => rfl
  | 29, _ => rfl
  | k + 30, h => exact absurd h (by omega)
set_option maxRecDepth 100000 in
theorem fg_X7_10 : ∀ (C : String) (T : u_T) (N : Nat), vwCl[7]? = some (C, T, N) → Cond.fieldLink RX7 10 C (T 0).2.1 (T 0).2.2.1 ∈ xw_tbl := fun C T N h => by
  cases h
  exact xw_inI 396 (by decide +kernel) rfl
set_option maxRecDepth 100000 in
theorem fg_X7_21 : ∀ (C : String) (T : u_T) (N : Nat), vwCl[7]? = some (C, T, N) → Cond.fieldLink RX7 21 C (T 1).2.1 (T 1).2.2.1 ∈ xw_tbl := fun C T N h => by
  cases h
  exact xw_inI 397 (by decide +kernel) rfl
set_option maxRecDepth 100000 in
theorem fg_X7_25 : ∀ (C : String) (T : u_T) (N : Nat), vwCl[7]? = some (C, T, N) → Cond.fieldLink RX7 25 C (T 2).2.1 (T 2).2.2.1 ∈ xw_tbl := fun C T N h => by
  cases h
  exact xw_inI 398 (by decide +kernel) rfl
set_option maxRecDepth 100000 in
theorem fg_X7_28 : ∀ (C : String) (T : u_T) (N : Nat), vwCl[7]? = some (C, T, N) → Cond.fieldLink RX7 28 C (T 3).2.1 (T 3).2.2.1 ∈ xw_tbl := fun C T N h => by
  cases h
  exact xw_inI 399 (by decide +kernel) rfl
set_option maxRecDepth 100000 in
theorem fg_X7_34 : ∀ (C : String) (T : u_T) (N : Nat), vwCl[7]? = some (C, T, N) → Cond.fieldLink RX7 34 C (T 4).2.1 (T 4).2.2.1 ∈ xw_tbl := fun C T N h => by
  cases h
  exact xw_inI 400 (by decide +kernel) rfl
set_option maxRecDepth 100000 in
theorem fg_X7_41 : ∀ (C : String) (T : u_T) (N : Nat), vwCl[7]? = some (C, T, N) → Cond.fieldLink RX7 41 C (T 5).2.1 (T 5).2.2.1 ∈ xw_tbl := fun C T N h => by
  cases h
  exact xw_inI 401 (by decide +kernel) rfl
set_option maxRecDepth 100000 in
theorem fg_X7_50 : ∀ (C : String) (T : u_T) (N : Nat), vwCl[7]? = some (C, T, N) → Cond.fieldLink RX7 50 C (T 6).2.1 (T 6).2.2.1 ∈ xw_tbl := fun C T N h => by
  cases h
  exact xw_inI 402 (by decide +kernel) rfl
set_option maxRecDepth 100000 in
theorem fg_X7_57 : ∀ (C : String) (T : u_T) (N : Nat), vwCl[7]? = some (C, T, N) → Cond.fieldLink RX7 57 C (T 7).2.1 (T 7).2.2.1 ∈ xw_tbl := fun C T N h => by
  cases h
  exact xw_inI 403 (by decide +kernel) rfl
set_option maxRecDepth 100000 in
theorem fg_X0_9 : ∀ (C : String) (T : u_T) (N : Nat), vwCl[0]? = some (C, T, N) → Cond.fieldLink RX0 9 C (T 0).2.1 (T 0).2.2.1 ∈ xw_tbl := fun C T N h => by
  cases h
  exact xw_inI 201 (by decide +kernel) rfl
set_option maxRecDepth 100000 in
theorem fg_X0_15 : ∀ (C : String) (T : u_T) (N : Nat), vwCl[0]? = some (C, T, N) → Cond.fieldLink RX0 15 C (T 1).2.1 (T 1).2.2.1 ∈ xw_tbl := fun C T N h => by
  cases h
  exact xw_inI 206 (by decide +kernel) rfl
set_option maxRecDepth 100000 in
theorem fg_X0_18 : ∀ (C : String) (T : u_T) (N : Nat), vwCl[0]? = some (C, T, N) → Cond.fieldLink RX0 18 C (T 2).2.1 (T 2).2.2.1 ∈ xw_tbl := fun C T N h => by
  cases h
  exact xw_inI 211 (by decide +kernel) rfl
set_option maxRecDepth 100000 in
theorem fg_X0_21 : ∀ (C : String) (T : u_T) (N : Nat), vwCl[0]? = some (C, T, N) → Cond.fieldLink RX0 21 C (T 3).2.1 (T 3).2.2.1 ∈ xw_tbl := fun C T N h => by
  cases h
  exact xw_inI 216 (by decide +kernel) rfl
set_option maxRecDepth 100000 in
theorem fg_X0_24 : ∀ (C : String) (T : u_T) (N : Nat), vwCl[0]? = some (C, T, N) → Cond.fieldLink RX0 24 C (T 4).2.1 (T 4).2.2.1 ∈ xw_tbl := fun C T N h => by
  cases h
  exact xw_inI 220 (by decide +kernel) rfl
set_option maxRecDepth 100000 in
theorem fg_X0_27 : ∀ (C : String) (T : u_T) (N : Nat), vwCl[0]? = some (C, T, N) → Cond.fieldLink RX0 27 C (T 5).2.1 (T 5).2.2.1 ∈ xw_tbl := fun C T N h => by
  cases h
  exact xw_inI 224 (by decide +kernel) rfl
set_option maxRecDepth 100000 in
theorem fg_X0_33 : ∀ (C : String) (T : u_T) (N : Nat), vwCl[0]? = some (C, T, N) → Cond.fieldLink RX0 33 C (T 6).2.1 (T 6).2.2.1 ∈ xw_tbl := fun C T N h => by
  cases h
  exact xw_inI 228 (by decide +kernel) rfl
set_option maxRecDepth 100000 in
theorem fg_X1_9 : ∀ (C : String) (T : u_T) (N : Nat), vwCl[1]? = some (C, T, N) → Cond.fieldLink RX1 9 C (T 0).2.1 (T 0).2.2.1 ∈ xw_tbl := fun C T N h => by
  cases h
  exact xw_inI 171 (by decide +kernel) rfl
set_option maxRecDepth 100000 in
theorem fg_X1_15 : ∀ (C : String) (T : u_T) (N : Nat), vwCl[1]? = some (C, T, N) → Cond.fieldLink RX1 15 C (T 1).2.1 (T 1).2.2.1 ∈ xw_tbl := fun C T N h => by
  cases h
  exact xw_inI 173 (by decide +kernel) rfl
set_option maxRecDepth 100000 in
theorem fg_X1_18 : ∀ (C : String) (T : u_T) (N : Nat), vwCl[1]? = some (C, T, N) → Cond.fieldLink RX1 18 C (T 2).2.1 (T 2).2.2.1 ∈ xw_tbl := fun C T N h => by
  cases h
  exact xw_inI 175 (by decide +kernel) rfl
set_option maxRecDepth 100000 in
theorem fg_X1_21 : ∀ (C : String) (T : u_T) (N : Nat), vwCl[1]? = some (C, T, N) → Cond.fieldLink RX1 21 C (T 3).2.1 (T 3).2.2.1 ∈ xw_tbl := fun C T N h => by
  cases h
  exact xw_inI 177 (by decide +kernel) rfl
set_option maxRecDepth 100000 in
theorem fg_X2_11 : ∀ (C : String) (T : u_T) (N : Nat), vwCl[2]? = some (C, T, N) → Cond.fieldLink RX2 11 C (T 0).2.1 (T 0).2.2.1 ∈ xw_tbl := fun C T N h => by
  cases h
  exact xw_inI 330 (by decide +kernel) rfl
set_option maxRecDepth 100000 in
theorem fg_X3_9 : ∀ (C : String) (T : u_T) (N : Nat), vwCl[3]? = some (C, T, N) → Cond.fieldLink RX3 9 C (T 0).2.1 (T 0).2.2.1 ∈ xw_tbl := fun C T N h => by
  cases h
  exact xw_inI 362 (by decide +kernel) rfl
set_option maxRecDepth 100000 in
theorem fg_X3_15 : ∀ (C : String) (T : u_T) (N : Nat), vwCl[3]? = some (C, T, N) → Cond.fieldLink RX3 15 C (T 1).2.1 (T 1).2.2.1 ∈ xw_tbl := fun C T N h => by
  cases h
  exact xw_inI 363 (by decide +kernel) rfl
set_option maxRecDepth 100000 in
theorem fg_X4_9 : ∀ (C : String) (T : u_T) (N : Nat), vwCl[4]? = some (C, T, N) → Cond.fieldLink RX4 9 C (T 1).2.1 (T 1).2.2.1 ∈ xw_tbl := fun C T N h => by
  cases h
  exact xw_inI 259 (by decide +kernel) rfl
set_option maxRecDepth 100000 in
theorem fg_X4_15 : ∀ (C : String) (T : u_T) (N : Nat), vwCl[4]? = some (C, T, N) → Cond.fieldLink RX4 15 C (T 2).2.1 (T 2).2.2.1 ∈ xw_tbl := fun C T N h => by
  cases h
  exact xw_inI 261 (by decide +kernel) rfl
set_option maxRecDepth 100000 in
theorem fg_X4_18 : ∀ (C : String) (T : u_T) (N : Nat), vwCl[4]? = some (C, T, N) → Cond.fieldLink RX4 18 C (T 3).2.1 (T 3).2.2.1 ∈ xw_tbl := fun C T N h => by
  cases h
  exact xw_inI 263 (by decide +kernel) rfl
set_option maxRecDepth 100000 in
theorem fg_X4_21 : ∀ (C : String) (T : u_T) (N : Nat), vwCl[4]? = some (C, T, N) → Cond.fieldLink RX4 21 C (T 4).2.1 (T 4).2.2.1 ∈ xw_tbl := fun C T N h => by
  cases h
  exact xw_inI 265 (by decide +kernel) rfl
set_option maxRecDepth 100000 in
theorem fg_X4_24 : ∀ (C : String) (T : u_T) (N : Nat), vwCl[4]? = some (C, T, N) → Cond.fieldLink RX4 24 C (T 5).2.1 (T 5).2.2.1 ∈ xw_tbl := fun C T N h => by
  cases h
  exact xw_inI 267 (by decide +kernel) rfl
set_option maxRecDepth 100000 in
theorem fg_X4_27 : ∀ (C : String) (T : u_T) (N : Nat), vwCl[4]? = some (C, T, N) → Cond.fieldLink RX4 27 C (T 6).2.1 (T 6).2.2.1 ∈ xw_tbl := fun C T N h => by
  cases h
  exact xw_inI 268 (by decide +kernel) rfl
set_option maxRecDepth 100000 in
theorem fg_X4_30 : ∀ (C : String) (T : u_T) (N : Nat), vwCl[4]? = some (C, T, N) → Cond.fieldLink RX4 30 C (T 7).2.1 (T 7).2.2.1 ∈ xw_tbl := fun C T N h => by
  cases h
  exact xw_inI 270 (by decide +kernel) rfl
set_option maxRecDepth 100000 in
theorem fg_X4_37 : ∀ (C : String) (T : u_T) (N : Nat), vwCl[4]? = some (C, T, N) → Cond.fieldLink RX4 37 C (T 0).2.1 (T 0).2.2.1 ∈ xw_tbl := fun C T N h => by
  cases h
  exact xw_inI 258 (by decide +kernel) rfl
set_option maxRecDepth 100000 in
theorem fg_X6_9 : ∀ (C : String) (T : u_T) (N : Nat), vwCl[6]? = some (C, T, N) → Cond.fieldLink RX6 9 C (T 0).2.1 (T 0).2.2.1 ∈ xw_tbl := fun C T N h => by
  cases h
  exact xw_inI 347 (by decide +kernel) rfl
set_option maxRecDepth 100000 in
theorem fg_X8_13 : ∀ (C : String) (T : u_T) (N : Nat), vwCl[8]? = some (C, T, N) → Cond.fieldLink RX8 13 C (T 1).2.1 (T 1).2.2.1 ∈ xw_tbl := fun C T N h => by
  cases h
  exact xw_inI 1092 (by decide +kernel) rfl
set_option maxRecDepth 100000 in
theorem fg_X8_17 : ∀ (C : String) (T : u_T) (N : Nat), vwCl[8]? = some (C, T, N) → Cond.fieldLink RX8 17 C (T 2).2.1 (T 2).2.2.1 ∈ xw_tbl := fun C T N h => by
  cases h
  exact xw_inI 1093 (by decide +kernel) rfl
set_option maxRecDepth 100000 in
theorem fg_X8_21 : ∀ (C : String) (T : u_T) (N : Nat), vwCl[8]? = some (C, T, N) → Cond.fieldLink RX8 21 C (T 3).2.1 (T 3).2.2.1 ∈ xw_tbl := fun C T N h => by
  cases h
  exact xw_inI 1094 (by decide +kernel) rfl
set_option maxRecDepth 100000 in
theorem fg_X8_24 : ∀ (C : String) (T : u_T) (N : Nat), vwCl[8]? = some (C, T, N) → Cond.fieldLink RX8 24 C (T 4).2.1 (T 4).2.2.1 ∈ xw_tbl := fun C T N h => by
  cases h
  exact xw_inI 1095 (by decide +kernel) rfl
set_option maxRecDepth 100000 in
theorem fg_X8_27 : ∀ (C : String) (T : u_T) (N : Nat), vwCl[8]? = some (C, T, N) → Cond.fieldLink RX8 27 C (T 5).2.1 (T 5).2.2.1 ∈ xw_tbl := fun C T N h => by
  cases h
  exact xw_inI 1096 (by decide +kernel) rfl
set_option maxRecDepth 100000 in
theorem fg_X8_30 : ∀ (C : String) (T : u_T) (N : Nat), vwCl[8]? = some (C, T, N) → Cond.fieldLink RX8 30 C (T 6).2.1 (T 6).2.2.1 ∈ xw_tbl := fun C T N h => by
  cases h
  exact xw_inI 1097 (by decide +kernel) rfl
set_option maxRecDepth 100000 in
theorem fg_X8_33 : ∀ (C : String) (T : u_T) (N : Nat), vwCl[8]? = some (C, T, N) → Cond.fieldLink RX8 33 C (T 8).2.1 (T 8).2.2.1 ∈ xw_tbl := fun C T N h => by
  cases h
  exact xw_inI 1099 (by decide +kernel) rfl
set_option maxRecDepth 100000 in
theorem fg_X8_36 : ∀ (C : String) (T : u_T) (N : Nat), vwCl[8]? = some (C, T, N) → Cond.fieldLink RX8 36 C (T 9).2.1 (T 9).2.2.1 ∈ xw_tbl := fun C T N h => by
  cases h
  exact xw_inI 1100 (by decide +kernel) rfl
set_option maxRecDepth 100000 in
theorem fg_X8_39 : ∀ (C : String) (T : u_T) (N : Nat), vwCl[8]? = some (C, T, N) → Cond.fieldLink RX8 39 C (T 10).2.1 (T 10).2.2.1 ∈ xw_tbl := fun C T N h => by
  cases h
  exact xw_inI 1101 (by decide +kernel) rfl
set_option maxRecDepth 100000 in
theorem fg_X8_42 : ∀ (C : String) (T : u_T) (N : Nat), vwCl[8]? = some (C, T, N) → Cond.fieldLink RX8 42 C (T 11).2.1 (T 11).2.2.1 ∈ xw_tbl := fun C T N h => by
  cases h
  exact xw_inI 1102 (by decide +kernel) rfl
set_option maxRecDepth 100000 in
theorem fg_X8_45 : ∀ (C : String) (T : u_T) (N : Nat), vwCl[8]? = some (C, T, N) → Cond.fieldLink RX8 45 C (T 12).2.1 (T 12).2.2.1 ∈ xw_tbl := fun C T N h => by
  cases h
  exact xw_inI 1103 (by decide +kernel) rfl
set_option maxRecDepth 100000 in
theorem fg_X8_48 : ∀ (C : String) (T : u_T) (N : Nat), vwCl[8]? = some (C, T, N) → Cond.fieldLink RX8 48 C (T 13).2.1 (T 13).2.2.1 ∈ xw_tbl := fun C T N h => by
  cases h
  exact xw_inI 1104 (by decide +kernel) rfl
set_option maxRecDepth 100000 in
theorem fg_X8_52 : ∀ (C : String) (T : u_T) (N : Nat), vwCl[8]? = some (C, T, N) → Cond.fieldLink RX8 52 C (T 20).2.1 (T 20).2.2.1 ∈ xw_tbl := fun C T N h => by
  cases h
  exact xw_inI 1111 (by decide +kernel) rfl
set_option maxRecDepth 100000 in
theorem fg_X8_55 : ∀ (C : String) (T : u_T) (N : Nat), vwCl[8]? = some (C, T, N) → Cond.fieldLink RX8 55 C (T 22).2.1 (T 22).2.2.1 ∈ xw_tbl := fun C T N h => by
  cases h
  exact xw_inI 1113 (by decide +kernel) rfl
set_option maxRecDepth 100000 in
theorem fg_X8_58 : ∀ (C : String) (T : u_T) (N : Nat), vwCl[8]? = some (C, T, N) → Cond.fieldLink RX8 58 C (T 24).2.1 (T 24).2.2.1 ∈ xw_tbl := fun C T N h => by
  cases h
  exact xw_inI 1115 (by decide +kernel) rfl
