section XW
variable {v : xw_V} {κ : xk_K} {post : Option Value → xw_G → Prop} {z : Nat × Nat × Nat} {G : xw_G} {pc : Nat} {ls : List (Option Value)} {st : List Value} {y : MethodName} {cc : ByteArray} {nL : Nat} {ret : Option FieldType} {fr lo : Nat}
theorem xj_bast2 (hk : xk_Ok v κ y cc nL ret fr lo) {g i k : Nat} {j x : Int32} {n9 : Nat} {f f2 : Nat → Int32} {p : List va_E} (hd : decode cc pc = .ok (.bastore, 1)) (hp : G g = p) (hc : p[i]? = some (xw_eb v n9 f)) (hj : xi j k n9) (hn : narrow .byte (.int x) = .int x) (h2 : xu f k x = f2) (kk : ∀ G1 : xw_G, G1 g = p.set i (xw_eb v n9 f2) → (∀ q, q ≠ g → G1 q = G q) → xj v κ post z G1 (pc + 1) ls st) : xj v κ post z G pc ls (.int x :: .int j :: .ref (xw_ad v g i) :: st) := by
  subst hp h2
  exact xj_bastore hk hd hc hj hn rfl (kk _ xw_up_s (fun q h => xw_up_n h))
end XW
def wlv (k : Nat) : Nat → Int32 := fun j => if j < k then wdL.getD j 0 else 0
theorem wlv_0 : wlv 0 = fun _ => 0 := by funext j; simp [wlv]
theorem wlv_s {k : Nat} {x : Int32} (h : wdL.getD k 0 = x) : xu (wlv k) k x = wlv (k + 1) := by
  funext j
  by_cases c : j = k
  · subst c; rw [xu_s]; simp only [wlv]; rw [if_pos (by omega), h]
  · rw [xu_n c]
    simp only [wlv]
    by_cases d : j < k
    · rw [if_pos d, if_pos (by omega)]
    · rw [if_neg d, if_neg (by omega)]
theorem wlv_ok : okW (wlv 68) := fun j hj => if_pos hj
set_option maxHeartbeats 1000000 in
set_option maxRecDepth 10000 in
theorem l_wd0 {v : xw_V} {κ : xk_K} {post : Option Value → xw_G → Prop} {z : Nat × Nat × Nat} {G : xw_G} {c0 c1 c2 c3 c4 c5 c6 c7 c8 c9 c10 c11 c12 c13 c14 : va_E} (hk : xk_Ok v κ yX8_init cX8_init 1 none 1 21) (hp : G 21 = [c0, c1, c2, c3, c4, c5, c6, c7, c8, c9, c10, c11, c12, c13, c14, xw_eb v 68 (wlv 0)]) (kx : ∀ G1 : xw_G, G1 21 = [c0, c1, c2, c3, c4, c5, c6, c7, c8, c9, c10, c11, c12, c13, c14, xw_eb v 68 (wlv 17)] → (∀ q, q ≠ 21 → G1 q = G q) → xj v κ post z G1 221 [some (.ref (xw_ad v 21 0))] [.ref (xw_ad v 21 15), .ref (xw_ad v 21 0)]) : xj v κ post z G 127 [some (.ref (xw_ad v 21 0))] [.ref (xw_ad v 21 15), .ref (xw_ad v 21 0)] := by
  refine xj_dup hk dX8_init_127 rfl ?_
  refine xj_iconst (x := 0) hk dX8_init_128 (by decide) ?_
  refine xj_bipush (x := 111) hk dX8_init_129 (by decide) ?_
  refine xj_bast2 (g := 21) (i := 15) (k := 0) (f2 := wlv 1) hk dX8_init_131 hp rfl (xi_d 0 68 (by decide)) (by decide) (wlv_s rfl) ?_
  intro G0 n0 f0
  have m0 : G0 21 = [c0, c1, c2, c3, c4, c5, c6, c7, c8, c9, c10, c11, c12, c13, c14, xw_eb v 68 (wlv 1)] := n0
  have e0 : ∀ q, q ≠ 21 → G0 q = G q := fun q a => f0 q a
  refine xj_dup hk dX8_init_132 rfl ?_
  refine xj_iconst (x := 1) hk dX8_init_133 (by decide) ?_
  refine xj_bipush (x := 102) hk dX8_init_134 (by decide) ?_
  refine xj_bast2 (g := 21) (i := 15) (k := 1) (f2 := wlv 2) hk dX8_init_136 m0 rfl (xi_d 1 68 (by decide)) (by decide) (wlv_s rfl) ?_
  intro G1 n1 f1
  have m1 : G1 21 = [c0, c1, c2, c3, c4, c5, c6, c7, c8, c9, c10, c11, c12, c13, c14, xw_eb v 68 (wlv 2)] := n1
  have e1 : ∀ q, q ≠ 21 → G1 q = G q := fun q a => (f1 q a).trans (e0 q a)
  refine xj_dup hk dX8_init_137 rfl ?_
  refine xj_iconst (x := 2) hk dX8_init_138 (by decide) ?_
  refine xj_bipush (x := 102) hk dX8_init_139 (by decide) ?_
  refine xj_bast2 (g := 21) (i := 15) (k := 2) (f2 := wlv 3) hk dX8_init_141 m1 rfl (xi_d 2 68 (by decide)) (by decide) (wlv_s rfl) ?_
  intro G2 n2 f2
  have m2 : G2 21 = [c0, c1, c2, c3, c4, c5, c6, c7, c8, c9, c10, c11, c12, c13, c14, xw_eb v 68 (wlv 3)] := n2
  have e2 : ∀ q, q ≠ 21 → G2 q = G q := fun q a => (f2 q a).trans (e1 q a)
  refine xj_dup hk dX8_init_142 rfl ?_
  refine xj_iconst (x := 3) hk dX8_init_143 (by decide) ?_
  refine xj_bipush (x := 101) hk dX8_init_144 (by decide) ?_
  refine xj_bast2 (g := 21) (i := 15) (k := 3) (f2 := wlv 4) hk dX8_init_146 m2 rfl (xi_d 3 68 (by decide)) (by decide) (wlv_s rfl) ?_
  intro G3 n3 f3
  have m3 : G3 21 = [c0, c1, c2, c3, c4, c5, c6, c7, c8, c9, c10, c11, c12, c13, c14, xw_eb v 68 (wlv 4)] := n3
  have e3 : ∀ q, q ≠ 21 → G3 q = G q := fun q a => (f3 q a).trans (e2 q a)
  refine xj_dup hk dX8_init_147 rfl ?_
  refine xj_iconst (x := 4) hk dX8_init_148 (by decide) ?_
  refine xj_bipush (x := 114) hk dX8_init_149 (by decide) ?_
  refine xj_bast2 (g := 21) (i := 15) (k := 4) (f2 := wlv 5) hk dX8_init_151 m3 rfl (xi_d 4 68 (by decide)) (by decide) (wlv_s rfl) ?_
  intro G4 n4 f4
  have m4 : G4 21 = [c0, c1, c2, c3, c4, c5, c6, c7, c8, c9, c10, c11, c12, c13, c14, xw_eb v 68 (wlv 5)] := n4
  have e4 : ∀ q, q ≠ 21 → G4 q = G q := fun q a => (f4 q a).trans (e3 q a)
  refine xj_dup hk dX8_init_152 rfl ?_
  refine xj_iconst (x := 5) hk dX8_init_153 (by decide) ?_
  refine xj_iconst (x := 0) hk dX8_init_154 (by decide) ?_
  refine xj_bast2 (g := 21) (i := 15) (k := 5) (f2 := wlv 6) hk dX8_init_155 m4 rfl (xi_d 5 68 (by decide)) (by decide) (wlv_s rfl) ?_
  intro G5 n5 f5
  have m5 : G5 21 = [c0, c1, c2, c3, c4, c5, c6, c7, c8, c9, c10, c11, c12, c13, c14, xw_eb v 68 (wlv 6)] := n5
  have e5 : ∀ q, q ≠ 21 → G5 q = G q := fun q a => (f5 q a).trans (e4 q a)
  refine xj_dup hk dX8_init_156 rfl ?_
  refine xj_bipush (x := 6) hk dX8_init_157 (by decide) ?_
  refine xj_bipush (x := 108) hk dX8_init_159 (by decide) ?_
  refine xj_bast2 (g := 21) (i := 15) (k := 6) (f2 := wlv 7) hk dX8_init_161 m5 rfl (xi_d 6 68 (by decide)) (by decide) (wlv_s rfl) ?_
  intro G6 n6 f6
  have m6 : G6 21 = [c0, c1, c2, c3, c4, c5, c6, c7, c8, c9, c10, c11, c12, c13, c14, xw_eb v 68 (wlv 7)] := n6
  have e6 : ∀ q, q ≠ 21 → G6 q = G q := fun q a => (f6 q a).trans (e5 q a)
  refine xj_dup hk dX8_init_162 rfl ?_
  refine xj_bipush (x := 7) hk dX8_init_163 (by decide) ?_
  refine xj_bipush (x := 105) hk dX8_init_165 (by decide) ?_
  refine xj_bast2 (g := 21) (i := 15) (k := 7) (f2 := wlv 8) hk dX8_init_167 m6 rfl (xi_d 7 68 (by decide)) (by decide) (wlv_s rfl) ?_
  intro G7 n7 f7
  have m7 : G7 21 = [c0, c1, c2, c3, c4, c5, c6, c7, c8, c9, c10, c11, c12, c13, c14, xw_eb v 68 (wlv 8)] := n7
  have e7 : ∀ q, q ≠ 21 → G7 q = G q := fun q a => (f7 q a).trans (e6 q a)
  refine xj_dup hk dX8_init_168 rfl ?_
  refine xj_bipush (x := 8) hk dX8_init_169 (by decide) ?_
  refine xj_bipush (x := 109) hk dX8_init_171 (by decide) ?_
  refine xj_bast2 (g := 21) (i := 15) (k := 8) (f2 := wlv 9) hk dX8_init_173 m7 rfl (xi_d 8 68 (by decide)) (by decide) (wlv_s rfl) ?_
  intro G8 n8 f8
  have m8 : G8 21 = [c0, c1, c2, c3, c4, c5, c6, c7, c8, c9, c10, c11, c12, c13, c14, xw_eb v 68 (wlv 9)] := n8
  have e8 : ∀ q, q ≠ 21 → G8 q = G q := fun q a => (f8 q a).trans (e7 q a)
  refine xj_dup hk dX8_init_174 rfl ?_
  refine xj_bipush (x := 9) hk dX8_init_175 (by decide) ?_
  refine xj_bipush (x := 105) hk dX8_init_177 (by decide) ?_
  refine xj_bast2 (g := 21) (i := 15) (k := 9) (f2 := wlv 10) hk dX8_init_179 m8 rfl (xi_d 9 68 (by decide)) (by decide) (wlv_s rfl) ?_
  intro G9 n9 f9
  have m9 : G9 21 = [c0, c1, c2, c3, c4, c5, c6, c7, c8, c9, c10, c11, c12, c13, c14, xw_eb v 68 (wlv 10)] := n9
  have e9 : ∀ q, q ≠ 21 → G9 q = G q := fun q a => (f9 q a).trans (e8 q a)
  refine xj_dup hk dX8_init_180 rfl ?_
  refine xj_bipush (x := 10) hk dX8_init_181 (by decide) ?_
  refine xj_bipush (x := 116) hk dX8_init_183 (by decide) ?_
  refine xj_bast2 (g := 21) (i := 15) (k := 10) (f2 := wlv 11) hk dX8_init_185 m9 rfl (xi_d 10 68 (by decide)) (by decide) (wlv_s rfl) ?_
  intro G10 n10 f10
  have m10 : G10 21 = [c0, c1, c2, c3, c4, c5, c6, c7, c8, c9, c10, c11, c12, c13, c14, xw_eb v 68 (wlv 11)] := n10
  have e10 : ∀ q, q ≠ 21 → G10 q = G q := fun q a => (f10 q a).trans (e9 q a)
  refine xj_dup hk dX8_init_186 rfl ?_
  refine xj_bipush (x := 11) hk dX8_init_187 (by decide) ?_
  refine xj_iconst (x := 0) hk dX8_init_189 (by decide) ?_
  refine xj_bast2 (g := 21) (i := 15) (k := 11) (f2 := wlv 12) hk dX8_init_190 m10 rfl (xi_d 11 68 (by decide)) (by decide) (wlv_s rfl) ?_
  intro G11 n11 f11
  have m11 : G11 21 = [c0, c1, c2, c3, c4, c5, c6, c7, c8, c9, c10, c11, c12, c13, c14, xw_eb v 68 (wlv 12)] := n11
  have e11 : ∀ q, q ≠ 21 → G11 q = G q := fun q a => (f11 q a).trans (e10 q a)
  refine xj_dup hk dX8_init_191 rfl ?_
  refine xj_bipush (x := 12) hk dX8_init_192 (by decide) ?_
  refine xj_bipush (x := 115) hk dX8_init_194 (by decide) ?_
  refine xj_bast2 (g := 21) (i := 15) (k := 12) (f2 := wlv 13) hk dX8_init_196 m11 rfl (xi_d 12 68 (by decide)) (by decide) (wlv_s rfl) ?_
  intro G12 n12 f12
  have m12 : G12 21 = [c0, c1, c2, c3, c4, c5, c6, c7, c8, c9, c10, c11, c12, c13, c14, xw_eb v 68 (wlv 13)] := n12
  have e12 : ∀ q, q ≠ 21 → G12 q = G q := fun q a => (f12 q a).trans (e11 q a)
  refine xj_dup hk dX8_init_197 rfl ?_
  refine xj_bipush (x := 13) hk dX8_init_198 (by decide) ?_
  refine xj_bipush (x := 104) hk dX8_init_200 (by decide) ?_
  refine xj_bast2 (g := 21) (i := 15) (k := 13) (f2 := wlv 14) hk dX8_init_202 m12 rfl (xi_d 13 68 (by decide)) (by decide) (wlv_s rfl) ?_
  intro G13 n13 f13
  have m13 : G13 21 = [c0, c1, c2, c3, c4, c5, c6, c7, c8, c9, c10, c11, c12, c13, c14, xw_eb v 68 (wlv 14)] := n13
  have e13 : ∀ q, q ≠ 21 → G13 q = G q := fun q a => (f13 q a).trans (e12 q a)
  refine xj_dup hk dX8_init_203 rfl ?_
  refine xj_bipush (x := 14) hk dX8_init_204 (by decide) ?_
  refine xj_bipush (x := 97) hk dX8_init_206 (by decide) ?_
  refine xj_bast2 (g := 21) (i := 15) (k := 14) (f2 := wlv 15) hk dX8_init_208 m13 rfl (xi_d 14 68 (by decide)) (by decide) (wlv_s rfl) ?_
  intro G14 n14 f14
  have m14 : G14 21 = [c0, c1, c2, c3, c4, c5, c6, c7, c8, c9, c10, c11, c12, c13, c14, xw_eb v 68 (wlv 15)] := n14
  have e14 : ∀ q, q ≠ 21 → G14 q = G q := fun q a => (f14 q a).trans (e13 q a)
  refine xj_dup hk dX8_init_209 rfl ?_
  refine xj_bipush (x := 15) hk dX8_init_210 (by decide) ?_
  refine xj_bipush (x := 114) hk dX8_init_212 (by decide) ?_
  refine xj_bast2 (g := 21) (i := 15) (k := 15) (f2 := wlv 16) hk dX8_init_214 m14 rfl (xi_d 15 68 (by decide)) (by decide) (wlv_s rfl) ?_
  intro G15 n15 f15
  have m15 : G15 21 = [c0, c1, c2, c3, c4, c5, c6, c7, c8, c9, c10, c11, c12, c13, c14, xw_eb v 68 (wlv 16)] := n15
  have e15 : ∀ q, q ≠ 21 → G15 q = G q := fun q a => (f15 q a).trans (e14 q a)
  refine xj_dup hk dX8_init_215 rfl ?_
  refine xj_bipush (x := 16) hk dX8_init_216 (by decide) ?_
  refine xj_bipush (x := 101) hk dX8_init_218 (by decide) ?_
  refine xj_bast2 (g := 21) (i := 15) (k := 16) (f2 := wlv 17) hk dX8_init_220 m15 rfl (xi_d 16 68 (by decide)) (by decide) (wlv_s rfl) ?_
  intro G16 n16 f16
  have m16 : G16 21 = [c0, c1, c2, c3, c4, c5, c6, c7, c8, c9, c10, c11, c12, c13, c14, xw_eb v 68 (wlv 17)] := n16
  have e16 : ∀ q, q ≠ 21 → G16 q = G q := fun q a => (f16 q a).trans (e15 q a)
  exact kx G16 m16 e16
set_option maxHeartbeats 1000000 in
set_option maxRecDepth 10000 in
theorem l_wd17 {v : xw_V} {κ : xk_K} {post : Option Value → xw_G → Prop} {z : Nat × Nat × Nat} {G : xw_G} {c0 c1 c2 c3 c4 c5 c6 c7 c8 c9 c10 c11 c12 c13 c14 : va_E} (hk : xk_Ok v κ yX8_init cX8_init 1 none 1 21) (hp : G 21 = [c0, c1, c2, c3, c4, c5, c6, c7, c8, c9, c10, c11, c12, c13, c14, xw_eb v 68 (wlv 17)]) (kx : ∀ G1 : xw_G, G1 21 = [c0, c1, c2, c3, c4, c5, c6, c7, c8, c9, c10, c11, c12, c13, c14, xw_eb v 68 (wlv 34)] → (∀ q, q ≠ 21 → G1 q = G q) → xj v κ post z G1 319 [some (.ref (xw_ad v 21 0))] [.ref (xw_ad v 21 15), .ref (xw_ad v 21 0)]) : xj v κ post z G 221 [some (.ref (xw_ad v 21 0))] [.ref (xw_ad v 21 15), .ref (xw_ad v 21 0)] := by
  refine xj_dup hk dX8_init_221 rfl ?_
  refine xj_bipush (x := 17) hk dX8_init_222 (by decide) ?_
  refine xj_iconst (x := 0) hk dX8_init_224 (by decide) ?_
  refine xj_bast2 (g := 21) (i := 15) (k := 17) (f2 := wlv 18) hk dX8_init_225 hp rfl (xi_d 17 68 (by decide)) (by decide) (wlv_s rfl) ?_
  intro G17 n17 f17
  have m17 : G17 21 = [c0, c1, c2, c3, c4, c5, c6, c7, c8, c9, c10, c11, c12, c13, c14, xw_eb v 68 (wlv 18)] := n17
  have e17 : ∀ q, q ≠ 21 → G17 q = G q := fun q a => f17 q a
  refine xj_dup hk dX8_init_226 rfl ?_
  refine xj_bipush (x := 18) hk dX8_init_227 (by decide) ?_
  refine xj_bipush (x := 121) hk dX8_init_229 (by decide) ?_
  refine xj_bast2 (g := 21) (i := 15) (k := 18) (f2 := wlv 19) hk dX8_init_231 m17 rfl (xi_d 18 68 (by decide)) (by decide) (wlv_s rfl) ?_
  intro G18 n18 f18
  have m18 : G18 21 = [c0, c1, c2, c3, c4, c5, c6, c7, c8, c9, c10, c11, c12, c13, c14, xw_eb v 68 (wlv 19)] := n18
  have e18 : ∀ q, q ≠ 21 → G18 q = G q := fun q a => (f18 q a).trans (e17 q a)
  refine xj_dup hk dX8_init_232 rfl ?_
  refine xj_bipush (x := 19) hk dX8_init_233 (by decide) ?_
  refine xj_bipush (x := 105) hk dX8_init_235 (by decide) ?_
  refine xj_bast2 (g := 21) (i := 15) (k := 19) (f2 := wlv 20) hk dX8_init_237 m18 rfl (xi_d 19 68 (by decide)) (by decide) (wlv_s rfl) ?_
  intro G19 n19 f19
  have m19 : G19 21 = [c0, c1, c2, c3, c4, c5, c6, c7, c8, c9, c10, c11, c12, c13, c14, xw_eb v 68 (wlv 20)] := n19
  have e19 : ∀ q, q ≠ 21 → G19 q = G q := fun q a => (f19 q a).trans (e18 q a)
  refine xj_dup hk dX8_init_238 rfl ?_
  refine xj_bipush (x := 20) hk dX8_init_239 (by decide) ?_
  refine xj_bipush (x := 101) hk dX8_init_241 (by decide) ?_
  refine xj_bast2 (g := 21) (i := 15) (k := 20) (f2 := wlv 21) hk dX8_init_243 m19 rfl (xi_d 20 68 (by decide)) (by decide) (wlv_s rfl) ?_
  intro G20 n20 f20
  have m20 : G20 21 = [c0, c1, c2, c3, c4, c5, c6, c7, c8, c9, c10, c11, c12, c13, c14, xw_eb v 68 (wlv 21)] := n20
  have e20 : ∀ q, q ≠ 21 → G20 q = G q := fun q a => (f20 q a).trans (e19 q a)
  refine xj_dup hk dX8_init_244 rfl ?_
  refine xj_bipush (x := 21) hk dX8_init_245 (by decide) ?_
  refine xj_bipush (x := 108) hk dX8_init_247 (by decide) ?_
  refine xj_bast2 (g := 21) (i := 15) (k := 21) (f2 := wlv 22) hk dX8_init_249 m20 rfl (xi_d 21 68 (by decide)) (by decide) (wlv_s rfl) ?_
  intro G21 n21 f21
  have m21 : G21 21 = [c0, c1, c2, c3, c4, c5, c6, c7, c8, c9, c10, c11, c12, c13, c14, xw_eb v 68 (wlv 22)] := n21
  have e21 : ∀ q, q ≠ 21 → G21 q = G q := fun q a => (f21 q a).trans (e20 q a)
  refine xj_dup hk dX8_init_250 rfl ?_
  refine xj_bipush (x := 22) hk dX8_init_251 (by decide) ?_
  refine xj_bipush (x := 100) hk dX8_init_253 (by decide) ?_
  refine xj_bast2 (g := 21) (i := 15) (k := 22) (f2 := wlv 23) hk dX8_init_255 m21 rfl (xi_d 22 68 (by decide)) (by decide) (wlv_s rfl) ?_
  intro G22 n22 f22
  have m22 : G22 21 = [c0, c1, c2, c3, c4, c5, c6, c7, c8, c9, c10, c11, c12, c13, c14, xw_eb v 68 (wlv 23)] := n22
  have e22 : ∀ q, q ≠ 21 → G22 q = G q := fun q a => (f22 q a).trans (e21 q a)
  refine xj_dup hk dX8_init_256 rfl ?_
  refine xj_bipush (x := 23) hk dX8_init_257 (by decide) ?_
  refine xj_bipush (x := 115) hk dX8_init_259 (by decide) ?_
  refine xj_bast2 (g := 21) (i := 15) (k := 23) (f2 := wlv 24) hk dX8_init_261 m22 rfl (xi_d 23 68 (by decide)) (by decide) (wlv_s rfl) ?_
  intro G23 n23 f23
  have m23 : G23 21 = [c0, c1, c2, c3, c4, c5, c6, c7, c8, c9, c10, c11, c12, c13, c14, xw_eb v 68 (wlv 24)] := n23
  have e23 : ∀ q, q ≠ 21 → G23 q = G q := fun q a => (f23 q a).trans (e22 q a)
  refine xj_dup hk dX8_init_262 rfl ?_
  refine xj_bipush (x := 24) hk dX8_init_263 (by decide) ?_
  refine xj_iconst (x := 0) hk dX8_init_265 (by decide) ?_
  refine xj_bast2 (g := 21) (i := 15) (k := 24) (f2 := wlv 25) hk dX8_init_266 m23 rfl (xi_d 24 68 (by decide)) (by decide) (wlv_s rfl) ?_
  intro G24 n24 f24
  have m24 : G24 21 = [c0, c1, c2, c3, c4, c5, c6, c7, c8, c9, c10, c11, c12, c13, c14, xw_eb v 68 (wlv 25)] := n24
  have e24 : ∀ q, q ≠ 21 → G24 q = G q := fun q a => (f24 q a).trans (e23 q a)
  refine xj_dup hk dX8_init_267 rfl ?_
  refine xj_bipush (x := 25) hk dX8_init_268 (by decide) ?_
  refine xj_bipush (x := 116) hk dX8_init_270 (by decide) ?_
  refine xj_bast2 (g := 21) (i := 15) (k := 25) (f2 := wlv 26) hk dX8_init_272 m24 rfl (xi_d 25 68 (by decide)) (by decide) (wlv_s rfl) ?_
  intro G25 n25 f25
  have m25 : G25 21 = [c0, c1, c2, c3, c4, c5, c6, c7, c8, c9, c10, c11, c12, c13, c14, xw_eb v 68 (wlv 26)] := n25
  have e25 : ∀ q, q ≠ 21 → G25 q = G q := fun q a => (f25 q a).trans (e24 q a)
  refine xj_dup hk dX8_init_273 rfl ?_
  refine xj_bipush (x := 26) hk dX8_init_274 (by decide) ?_
  refine xj_bipush (x := 111) hk dX8_init_276 (by decide) ?_
  refine xj_bast2 (g := 21) (i := 15) (k := 26) (f2 := wlv 27) hk dX8_init_278 m25 rfl (xi_d 26 68 (by decide)) (by decide) (wlv_s rfl) ?_
  intro G26 n26 f26
  have m26 : G26 21 = [c0, c1, c2, c3, c4, c5, c6, c7, c8, c9, c10, c11, c12, c13, c14, xw_eb v 68 (wlv 27)] := n26
  have e26 : ∀ q, q ≠ 21 → G26 q = G q := fun q a => (f26 q a).trans (e25 q a)
  refine xj_dup hk dX8_init_279 rfl ?_
  refine xj_bipush (x := 27) hk dX8_init_280 (by decide) ?_
  refine xj_iconst (x := 0) hk dX8_init_282 (by decide) ?_
  refine xj_bast2 (g := 21) (i := 15) (k := 27) (f2 := wlv 28) hk dX8_init_283 m26 rfl (xi_d 27 68 (by decide)) (by decide) (wlv_s rfl) ?_
  intro G27 n27 f27
  have m27 : G27 21 = [c0, c1, c2, c3, c4, c5, c6, c7, c8, c9, c10, c11, c12, c13, c14, xw_eb v 68 (wlv 28)] := n27
  have e27 : ∀ q, q ≠ 21 → G27 q = G q := fun q a => (f27 q a).trans (e26 q a)
  refine xj_dup hk dX8_init_284 rfl ?_
  refine xj_bipush (x := 28) hk dX8_init_285 (by decide) ?_
  refine xj_bipush (x := 100) hk dX8_init_287 (by decide) ?_
  refine xj_bast2 (g := 21) (i := 15) (k := 28) (f2 := wlv 29) hk dX8_init_289 m27 rfl (xi_d 28 68 (by decide)) (by decide) (wlv_s rfl) ?_
  intro G28 n28 f28
  have m28 : G28 21 = [c0, c1, c2, c3, c4, c5, c6, c7, c8, c9, c10, c11, c12, c13, c14, xw_eb v 68 (wlv 29)] := n28
  have e28 : ∀ q, q ≠ 21 → G28 q = G q := fun q a => (f28 q a).trans (e27 q a)
  refine xj_dup hk dX8_init_290 rfl ?_
  refine xj_bipush (x := 29) hk dX8_init_291 (by decide) ?_
  refine xj_bipush (x := 97) hk dX8_init_293 (by decide) ?_
  refine xj_bast2 (g := 21) (i := 15) (k := 29) (f2 := wlv 30) hk dX8_init_295 m28 rfl (xi_d 29 68 (by decide)) (by decide) (wlv_s rfl) ?_
  intro G29 n29 f29
  have m29 : G29 21 = [c0, c1, c2, c3, c4, c5, c6, c7, c8, c9, c10, c11, c12, c13, c14, xw_eb v 68 (wlv 30)] := n29
  have e29 : ∀ q, q ≠ 21 → G29 q = G q := fun q a => (f29 q a).trans (e28 q a)
  refine xj_dup hk dX8_init_296 rfl ?_
  refine xj_bipush (x := 30) hk dX8_init_297 (by decide) ?_
  refine xj_bipush (x := 121) hk dX8_init_299 (by decide) ?_
  refine xj_bast2 (g := 21) (i := 15) (k := 30) (f2 := wlv 31) hk dX8_init_301 m29 rfl (xi_d 30 68 (by decide)) (by decide) (wlv_s rfl) ?_
  intro G30 n30 f30
  have m30 : G30 21 = [c0, c1, c2, c3, c4, c5, c6, c7, c8, c9, c10, c11, c12, c13, c14, xw_eb v 68 (wlv 31)] := n30
  have e30 : ∀ q, q ≠ 21 → G30 q = G q := fun q a => (f30 q a).trans (e29 q a)
  refine xj_dup hk dX8_init_302 rfl ?_
  refine xj_bipush (x := 31) hk dX8_init_303 (by decide) ?_
  refine xj_bipush (x := 115) hk dX8_init_305 (by decide) ?_
  refine xj_bast2 (g := 21) (i := 15) (k := 31) (f2 := wlv 32) hk dX8_init_307 m30 rfl (xi_d 31 68 (by decide)) (by decide) (wlv_s rfl) ?_
  intro G31 n31 f31
  have m31 : G31 21 = [c0, c1, c2, c3, c4, c5, c6, c7, c8, c9, c10, c11, c12, c13, c14, xw_eb v 68 (wlv 32)] := n31
  have e31 : ∀ q, q ≠ 21 → G31 q = G q := fun q a => (f31 q a).trans (e30 q a)
  refine xj_dup hk dX8_init_308 rfl ?_
  refine xj_bipush (x := 32) hk dX8_init_309 (by decide) ?_
  refine xj_iconst (x := 0) hk dX8_init_311 (by decide) ?_
  refine xj_bast2 (g := 21) (i := 15) (k := 32) (f2 := wlv 33) hk dX8_init_312 m31 rfl (xi_d 32 68 (by decide)) (by decide) (wlv_s rfl) ?_
  intro G32 n32 f32
  have m32 : G32 21 = [c0, c1, c2, c3, c4, c5, c6, c7, c8, c9, c10, c11, c12, c13, c14, xw_eb v 68 (wlv 33)] := n32
  have e32 : ∀ q, q ≠ 21 → G32 q = G q := fun q a => (f32 q a).trans (e31 q a)
  refine xj_dup hk dX8_init_313 rfl ?_
  refine xj_bipush (x := 33) hk dX8_init_314 (by decide) ?_
  refine xj_bipush (x := 111) hk dX8_init_316 (by decide) ?_
  refine xj_bast2 (g := 21) (i := 15) (k := 33) (f2 := wlv 34) hk dX8_init_318 m32 rfl (xi_d 33 68 (by decide)) (by decide) (wlv_s rfl) ?_
  intro G33 n33 f33
  have m33 : G33 21 = [c0, c1, c2, c3, c4, c5, c6, c7, c8, c9, c10, c11, c12, c13, c14, xw_eb v 68 (wlv 34)] := n33
  have e33 : ∀ q, q ≠ 21 → G33 q = G q := fun q a => (f33 q a).trans (e32 q a)
  exact kx G33 m33 e33
set_option maxHeartbeats 1000000 in
set_option maxRecDepth 10000 in
theorem l_wd34 {v : xw_V} {κ : xk_K} {post : Option Value → xw_G → Prop} {z : Nat × Nat × Nat} {G : xw_G} {c0 c1 c2 c3 c4 c5 c6 c7 c8 c9 c10 c11 c12 c13 c14 : va_E} (hk : xk_Ok v κ yX8_init cX8_init 1 none 1 21) (hp : G 21 = [c0, c1, c2, c3, c4, c5, c6, c7, c8, c9, c10, c11, c12, c13, c14, xw_eb v 68 (wlv 34)]) (kx : ∀ G1 : xw_G, G1 21 = [c0, c1, c2, c3, c4, c5, c6, c7, c8, c9, c10, c11, c12, c13, c14, xw_eb v 68 (wlv 51)] → (∀ q, q ≠ 21 → G1 q = G q) → xj v κ post z G1 418 [some (.ref (xw_ad v 21 0))] [.ref (xw_ad v 21 15), .ref (xw_ad v 21 0)]) : xj v κ post z G 319 [some (.ref (xw_ad v 21 0))] [.ref (xw_ad v 21 15), .ref (xw_ad v 21 0)] := by
  refine xj_dup hk dX8_init_319 rfl ?_
  refine xj_bipush (x := 34) hk dX8_init_320 (by decide) ?_
  refine xj_bipush (x := 110) hk dX8_init_322 (by decide) ?_
  refine xj_bast2 (g := 21) (i := 15) (k := 34) (f2 := wlv 35) hk dX8_init_324 hp rfl (xi_d 34 68 (by decide)) (by decide) (wlv_s rfl) ?_
  intro G34 n34 f34
  have m34 : G34 21 = [c0, c1, c2, c3, c4, c5, c6, c7, c8, c9, c10, c11, c12, c13, c14, xw_eb v 68 (wlv 35)] := n34
  have e34 : ∀ q, q ≠ 21 → G34 q = G q := fun q a => f34 q a
  refine xj_dup hk dX8_init_325 rfl ?_
  refine xj_bipush (x := 35) hk dX8_init_326 (by decide) ?_
  refine xj_bipush (x := 101) hk dX8_init_328 (by decide) ?_
  refine xj_bast2 (g := 21) (i := 15) (k := 35) (f2 := wlv 36) hk dX8_init_330 m34 rfl (xi_d 35 68 (by decide)) (by decide) (wlv_s rfl) ?_
  intro G35 n35 f35
  have m35 : G35 21 = [c0, c1, c2, c3, c4, c5, c6, c7, c8, c9, c10, c11, c12, c13, c14, xw_eb v 68 (wlv 36)] := n35
  have e35 : ∀ q, q ≠ 21 → G35 q = G q := fun q a => (f35 q a).trans (e34 q a)
  refine xj_dup hk dX8_init_331 rfl ?_
  refine xj_bipush (x := 36) hk dX8_init_332 (by decide) ?_
  refine xj_iconst (x := 0) hk dX8_init_334 (by decide) ?_
  refine xj_bast2 (g := 21) (i := 15) (k := 36) (f2 := wlv 37) hk dX8_init_335 m35 rfl (xi_d 36 68 (by decide)) (by decide) (wlv_s rfl) ?_
  intro G36 n36 f36
  have m36 : G36 21 = [c0, c1, c2, c3, c4, c5, c6, c7, c8, c9, c10, c11, c12, c13, c14, xw_eb v 68 (wlv 37)] := n36
  have e36 : ∀ q, q ≠ 21 → G36 q = G q := fun q a => (f36 q a).trans (e35 q a)
  refine xj_dup hk dX8_init_336 rfl ?_
  refine xj_bipush (x := 37) hk dX8_init_337 (by decide) ?_
  refine xj_bipush (x := 111) hk dX8_init_339 (by decide) ?_
  refine xj_bast2 (g := 21) (i := 15) (k := 37) (f2 := wlv 38) hk dX8_init_341 m36 rfl (xi_d 37 68 (by decide)) (by decide) (wlv_s rfl) ?_
  intro G37 n37 f37
  have m37 : G37 21 = [c0, c1, c2, c3, c4, c5, c6, c7, c8, c9, c10, c11, c12, c13, c14, xw_eb v 68 (wlv 38)] := n37
  have e37 : ∀ q, q ≠ 21 → G37 q = G q := fun q a => (f37 q a).trans (e36 q a)
  refine xj_dup hk dX8_init_342 rfl ?_
  refine xj_bipush (x := 38) hk dX8_init_343 (by decide) ?_
  refine xj_bipush (x := 119) hk dX8_init_345 (by decide) ?_
  refine xj_bast2 (g := 21) (i := 15) (k := 38) (f2 := wlv 39) hk dX8_init_347 m37 rfl (xi_d 38 68 (by decide)) (by decide) (wlv_s rfl) ?_
  intro G38 n38 f38
  have m38 : G38 21 = [c0, c1, c2, c3, c4, c5, c6, c7, c8, c9, c10, c11, c12, c13, c14, xw_eb v 68 (wlv 39)] := n38
  have e38 : ∀ q, q ≠ 21 → G38 q = G q := fun q a => (f38 q a).trans (e37 q a)
  refine xj_dup hk dX8_init_348 rfl ?_
  refine xj_bipush (x := 39) hk dX8_init_349 (by decide) ?_
  refine xj_bipush (x := 110) hk dX8_init_351 (by decide) ?_
  refine xj_bast2 (g := 21) (i := 15) (k := 39) (f2 := wlv 40) hk dX8_init_353 m38 rfl (xi_d 39 68 (by decide)) (by decide) (wlv_s rfl) ?_
  intro G39 n39 f39
  have m39 : G39 21 = [c0, c1, c2, c3, c4, c5, c6, c7, c8, c9, c10, c11, c12, c13, c14, xw_eb v 68 (wlv 40)] := n39
  have e39 : ∀ q, q ≠ 21 → G39 q = G q := fun q a => (f39 q a).trans (e38 q a)
  refine xj_dup hk dX8_init_354 rfl ?_
  refine xj_bipush (x := 40) hk dX8_init_355 (by decide) ?_
  refine xj_iconst (x := 0) hk dX8_init_357 (by decide) ?_
  refine xj_bast2 (g := 21) (i := 15) (k := 40) (f2 := wlv 41) hk dX8_init_358 m39 rfl (xi_d 40 68 (by decide)) (by decide) (wlv_s rfl) ?_
  intro G40 n40 f40
  have m40 : G40 21 = [c0, c1, c2, c3, c4, c5, c6, c7, c8, c9, c10, c11, c12, c13, c14, xw_eb v 68 (wlv 41)] := n40
  have e40 : ∀ q, q ≠ 21 → G40 q = G q := fun q a => (f40 q a).trans (e39 q a)
  refine xj_dup hk dX8_init_359 rfl ?_
  refine xj_bipush (x := 41) hk dX8_init_360 (by decide) ?_
  refine xj_bipush (x := 104) hk dX8_init_362 (by decide) ?_
  refine xj_bast2 (g := 21) (i := 15) (k := 41) (f2 := wlv 42) hk dX8_init_364 m40 rfl (xi_d 41 68 (by decide)) (by decide) (wlv_s rfl) ?_
  intro G41 n41 f41
  have m41 : G41 21 = [c0, c1, c2, c3, c4, c5, c6, c7, c8, c9, c10, c11, c12, c13, c14, xw_eb v 68 (wlv 42)] := n41
  have e41 : ∀ q, q ≠ 21 → G41 q = G q := fun q a => (f41 q a).trans (e40 q a)
  refine xj_dup hk dX8_init_365 rfl ?_
  refine xj_bipush (x := 42) hk dX8_init_366 (by decide) ?_
  refine xj_bipush (x := 111) hk dX8_init_368 (by decide) ?_
  refine xj_bast2 (g := 21) (i := 15) (k := 42) (f2 := wlv 43) hk dX8_init_370 m41 rfl (xi_d 42 68 (by decide)) (by decide) (wlv_s rfl) ?_
  intro G42 n42 f42
  have m42 : G42 21 = [c0, c1, c2, c3, c4, c5, c6, c7, c8, c9, c10, c11, c12, c13, c14, xw_eb v 68 (wlv 43)] := n42
  have e42 : ∀ q, q ≠ 21 → G42 q = G q := fun q a => (f42 q a).trans (e41 q a)
  refine xj_dup hk dX8_init_371 rfl ?_
  refine xj_bipush (x := 43) hk dX8_init_372 (by decide) ?_
  refine xj_bipush (x := 108) hk dX8_init_374 (by decide) ?_
  refine xj_bast2 (g := 21) (i := 15) (k := 43) (f2 := wlv 44) hk dX8_init_376 m42 rfl (xi_d 43 68 (by decide)) (by decide) (wlv_s rfl) ?_
  intro G43 n43 f43
  have m43 : G43 21 = [c0, c1, c2, c3, c4, c5, c6, c7, c8, c9, c10, c11, c12, c13, c14, xw_eb v 68 (wlv 44)] := n43
  have e43 : ∀ q, q ≠ 21 → G43 q = G q := fun q a => (f43 q a).trans (e42 q a)
  refine xj_dup hk dX8_init_377 rfl ?_
  refine xj_bipush (x := 44) hk dX8_init_378 (by decide) ?_
  refine xj_bipush (x := 100) hk dX8_init_380 (by decide) ?_
  refine xj_bast2 (g := 21) (i := 15) (k := 44) (f2 := wlv 45) hk dX8_init_382 m43 rfl (xi_d 44 68 (by decide)) (by decide) (wlv_s rfl) ?_
  intro G44 n44 f44
  have m44 : G44 21 = [c0, c1, c2, c3, c4, c5, c6, c7, c8, c9, c10, c11, c12, c13, c14, xw_eb v 68 (wlv 45)] := n44
  have e44 : ∀ q, q ≠ 21 → G44 q = G q := fun q a => (f44 q a).trans (e43 q a)
  refine xj_dup hk dX8_init_383 rfl ?_
  refine xj_bipush (x := 45) hk dX8_init_384 (by decide) ?_
  refine xj_bipush (x := 115) hk dX8_init_386 (by decide) ?_
  refine xj_bast2 (g := 21) (i := 15) (k := 45) (f2 := wlv 46) hk dX8_init_388 m44 rfl (xi_d 45 68 (by decide)) (by decide) (wlv_s rfl) ?_
  intro G45 n45 f45
  have m45 : G45 21 = [c0, c1, c2, c3, c4, c5, c6, c7, c8, c9, c10, c11, c12, c13, c14, xw_eb v 68 (wlv 46)] := n45
  have e45 : ∀ q, q ≠ 21 → G45 q = G q := fun q a => (f45 q a).trans (e44 q a)
  refine xj_dup hk dX8_init_389 rfl ?_
  refine xj_bipush (x := 46) hk dX8_init_390 (by decide) ?_
  refine xj_iconst (x := 0) hk dX8_init_392 (by decide) ?_
  refine xj_bast2 (g := 21) (i := 15) (k := 46) (f2 := wlv 47) hk dX8_init_393 m45 rfl (xi_d 46 68 (by decide)) (by decide) (wlv_s rfl) ?_
  intro G46 n46 f46
  have m46 : G46 21 = [c0, c1, c2, c3, c4, c5, c6, c7, c8, c9, c10, c11, c12, c13, c14, xw_eb v 68 (wlv 47)] := n46
  have e46 : ∀ q, q ≠ 21 → G46 q = G q := fun q a => (f46 q a).trans (e45 q a)
  refine xj_dup hk dX8_init_394 rfl ?_
  refine xj_bipush (x := 47) hk dX8_init_395 (by decide) ?_
  refine xj_bipush (x := 111) hk dX8_init_397 (by decide) ?_
  refine xj_bast2 (g := 21) (i := 15) (k := 47) (f2 := wlv 48) hk dX8_init_399 m46 rfl (xi_d 47 68 (by decide)) (by decide) (wlv_s rfl) ?_
  intro G47 n47 f47
  have m47 : G47 21 = [c0, c1, c2, c3, c4, c5, c6, c7, c8, c9, c10, c11, c12, c13, c14, xw_eb v 68 (wlv 48)] := n47
  have e47 : ∀ q, q ≠ 21 → G47 q = G q := fun q a => (f47 q a).trans (e46 q a)
  refine xj_dup hk dX8_init_400 rfl ?_
  refine xj_bipush (x := 48) hk dX8_init_401 (by decide) ?_
  refine xj_bipush (x := 119) hk dX8_init_403 (by decide) ?_
  refine xj_bast2 (g := 21) (i := 15) (k := 48) (f2 := wlv 49) hk dX8_init_405 m47 rfl (xi_d 48 68 (by decide)) (by decide) (wlv_s rfl) ?_
  intro G48 n48 f48
  have m48 : G48 21 = [c0, c1, c2, c3, c4, c5, c6, c7, c8, c9, c10, c11, c12, c13, c14, xw_eb v 68 (wlv 49)] := n48
  have e48 : ∀ q, q ≠ 21 → G48 q = G q := fun q a => (f48 q a).trans (e47 q a)
  refine xj_dup hk dX8_init_406 rfl ?_
  refine xj_bipush (x := 49) hk dX8_init_407 (by decide) ?_
  refine xj_bipush (x := 110) hk dX8_init_409 (by decide) ?_
  refine xj_bast2 (g := 21) (i := 15) (k := 49) (f2 := wlv 50) hk dX8_init_411 m48 rfl (xi_d 49 68 (by decide)) (by decide) (wlv_s rfl) ?_
  intro G49 n49 f49
  have m49 : G49 21 = [c0, c1, c2, c3, c4, c5, c6, c7, c8, c9, c10, c11, c12, c13, c14, xw_eb v 68 (wlv 50)] := n49
  have e49 : ∀ q, q ≠ 21 → G49 q = G q := fun q a => (f49 q a).trans (e48 q a)
  refine xj_dup hk dX8_init_412 rfl ?_
  refine xj_bipush (x := 50) hk dX8_init_413 (by decide) ?_
  refine xj_bipush (x := 101) hk dX8_init_415 (by decide) ?_
  refine xj_bast2 (g := 21) (i := 15) (k := 50) (f2 := wlv 51) hk dX8_init_417 m49 rfl (xi_d 50 68 (by decide)) (by decide) (wlv_s rfl) ?_
  intro G50 n50 f50
  have m50 : G50 21 = [c0, c1, c2, c3, c4, c5, c6, c7, c8, c9, c10, c11, c12, c13, c14, xw_eb v 68 (wlv 51)] := n50
  have e50 : ∀ q, q ≠ 21 → G50 q = G q := fun q a => (f50 q a).trans (e49 q a)
  exact kx G50 m50 e50
set_option maxHeartbeats 1000000 in
set_option maxRecDepth 10000 in
theorem l_wd51 {v : xw_V} {κ : xk_K} {post : Option Value → xw_G → Prop} {z : Nat × Nat × Nat} {G : xw_G} {c0 c1 c2 c3 c4 c5 c6 c7 c8 c9 c10 c11 c12 c13 c14 : va_E} (hk : xk_Ok v κ yX8_init cX8_init 1 none 1 21) (hp : G 21 = [c0, c1, c2, c3, c4, c5, c6, c7, c8, c9, c10, c11, c12, c13, c14, xw_eb v 68 (wlv 51)]) (kx : ∀ G1 : xw_G, G1 21 = [c0, c1, c2, c3, c4, c5, c6, c7, c8, c9, c10, c11, c12, c13, c14, xw_eb v 68 (wlv 68)] → (∀ q, q ≠ 21 → G1 q = G q) → xj v κ post z G1 516 [some (.ref (xw_ad v 21 0))] [.ref (xw_ad v 21 15), .ref (xw_ad v 21 0)]) : xj v κ post z G 418 [some (.ref (xw_ad v 21 0))] [.ref (xw_ad v 21 15), .ref (xw_ad v 21 0)] := by
  refine xj_dup hk dX8_init_418 rfl ?_
  refine xj_bipush (x := 51) hk dX8_init_419 (by decide) ?_
  refine xj_bipush (x := 114) hk dX8_init_421 (by decide) ?_
  refine xj_bast2 (g := 21) (i := 15) (k := 51) (f2 := wlv 52) hk dX8_init_423 hp rfl (xi_d 51 68 (by decide)) (by decide) (wlv_s rfl) ?_
  intro G51 n51 f51
  have m51 : G51 21 = [c0, c1, c2, c3, c4, c5, c6, c7, c8, c9, c10, c11, c12, c13, c14, xw_eb v 68 (wlv 52)] := n51
  have e51 : ∀ q, q ≠ 21 → G51 q = G q := fun q a => f51 q a
  refine xj_dup hk dX8_init_424 rfl ?_
  refine xj_bipush (x := 52) hk dX8_init_425 (by decide) ?_
  refine xj_iconst (x := 0) hk dX8_init_427 (by decide) ?_
  refine xj_bast2 (g := 21) (i := 15) (k := 52) (f2 := wlv 53) hk dX8_init_428 m51 rfl (xi_d 52 68 (by decide)) (by decide) (wlv_s rfl) ?_
  intro G52 n52 f52
  have m52 : G52 21 = [c0, c1, c2, c3, c4, c5, c6, c7, c8, c9, c10, c11, c12, c13, c14, xw_eb v 68 (wlv 53)] := n52
  have e52 : ∀ q, q ≠ 21 → G52 q = G q := fun q a => (f52 q a).trans (e51 q a)
  refine xj_dup hk dX8_init_429 rfl ?_
  refine xj_bipush (x := 53) hk dX8_init_430 (by decide) ?_
  refine xj_bipush (x := 98) hk dX8_init_432 (by decide) ?_
  refine xj_bast2 (g := 21) (i := 15) (k := 53) (f2 := wlv 54) hk dX8_init_434 m52 rfl (xi_d 53 68 (by decide)) (by decide) (wlv_s rfl) ?_
  intro G53 n53 f53
  have m53 : G53 21 = [c0, c1, c2, c3, c4, c5, c6, c7, c8, c9, c10, c11, c12, c13, c14, xw_eb v 68 (wlv 54)] := n53
  have e53 : ∀ q, q ≠ 21 → G53 q = G q := fun q a => (f53 q a).trans (e52 q a)
  refine xj_dup hk dX8_init_435 rfl ?_
  refine xj_bipush (x := 54) hk dX8_init_436 (by decide) ?_
  refine xj_bipush (x := 105) hk dX8_init_438 (by decide) ?_
  refine xj_bast2 (g := 21) (i := 15) (k := 54) (f2 := wlv 55) hk dX8_init_440 m53 rfl (xi_d 54 68 (by decide)) (by decide) (wlv_s rfl) ?_
  intro G54 n54 f54
  have m54 : G54 21 = [c0, c1, c2, c3, c4, c5, c6, c7, c8, c9, c10, c11, c12, c13, c14, xw_eb v 68 (wlv 55)] := n54
  have e54 : ∀ q, q ≠ 21 → G54 q = G q := fun q a => (f54 q a).trans (e53 q a)
  refine xj_dup hk dX8_init_441 rfl ?_
  refine xj_bipush (x := 55) hk dX8_init_442 (by decide) ?_
  refine xj_bipush (x := 100) hk dX8_init_444 (by decide) ?_
  refine xj_bast2 (g := 21) (i := 15) (k := 55) (f2 := wlv 56) hk dX8_init_446 m54 rfl (xi_d 55 68 (by decide)) (by decide) (wlv_s rfl) ?_
  intro G55 n55 f55
  have m55 : G55 21 = [c0, c1, c2, c3, c4, c5, c6, c7, c8, c9, c10, c11, c12, c13, c14, xw_eb v 68 (wlv 56)] := n55
  have e55 : ∀ q, q ≠ 21 → G55 q = G q := fun q a => (f55 q a).trans (e54 q a)
  refine xj_dup hk dX8_init_447 rfl ?_
  refine xj_bipush (x := 56) hk dX8_init_448 (by decide) ?_
  refine xj_iconst (x := 0) hk dX8_init_450 (by decide) ?_
  refine xj_bast2 (g := 21) (i := 15) (k := 56) (f2 := wlv 57) hk dX8_init_451 m55 rfl (xi_d 56 68 (by decide)) (by decide) (wlv_s rfl) ?_
  intro G56 n56 f56
  have m56 : G56 21 = [c0, c1, c2, c3, c4, c5, c6, c7, c8, c9, c10, c11, c12, c13, c14, xw_eb v 68 (wlv 57)] := n56
  have e56 : ∀ q, q ≠ 21 → G56 q = G q := fun q a => (f56 q a).trans (e55 q a)
  refine xj_dup hk dX8_init_452 rfl ?_
  refine xj_bipush (x := 57) hk dX8_init_453 (by decide) ?_
  refine xj_bipush (x := 108) hk dX8_init_455 (by decide) ?_
  refine xj_bast2 (g := 21) (i := 15) (k := 57) (f2 := wlv 58) hk dX8_init_457 m56 rfl (xi_d 57 68 (by decide)) (by decide) (wlv_s rfl) ?_
  intro G57 n57 f57
  have m57 : G57 21 = [c0, c1, c2, c3, c4, c5, c6, c7, c8, c9, c10, c11, c12, c13, c14, xw_eb v 68 (wlv 58)] := n57
  have e57 : ∀ q, q ≠ 21 → G57 q = G q := fun q a => (f57 q a).trans (e56 q a)
  refine xj_dup hk dX8_init_458 rfl ?_
  refine xj_bipush (x := 58) hk dX8_init_459 (by decide) ?_
  refine xj_bipush (x := 111) hk dX8_init_461 (by decide) ?_
  refine xj_bast2 (g := 21) (i := 15) (k := 58) (f2 := wlv 59) hk dX8_init_463 m57 rfl (xi_d 58 68 (by decide)) (by decide) (wlv_s rfl) ?_
  intro G58 n58 f58
  have m58 : G58 21 = [c0, c1, c2, c3, c4, c5, c6, c7, c8, c9, c10, c11, c12, c13, c14, xw_eb v 68 (wlv 59)] := n58
  have e58 : ∀ q, q ≠ 21 → G58 q = G q := fun q a => (f58 q a).trans (e57 q a)
  refine xj_dup hk dX8_init_464 rfl ?_
  refine xj_bipush (x := 59) hk dX8_init_465 (by decide) ?_
  refine xj_bipush (x := 116) hk dX8_init_467 (by decide) ?_
  refine xj_bast2 (g := 21) (i := 15) (k := 59) (f2 := wlv 60) hk dX8_init_469 m58 rfl (xi_d 59 68 (by decide)) (by decide) (wlv_s rfl) ?_
  intro G59 n59 f59
  have m59 : G59 21 = [c0, c1, c2, c3, c4, c5, c6, c7, c8, c9, c10, c11, c12, c13, c14, xw_eb v 68 (wlv 60)] := n59
  have e59 : ∀ q, q ≠ 21 → G59 q = G q := fun q a => (f59 q a).trans (e58 q a)
  refine xj_dup hk dX8_init_470 rfl ?_
  refine xj_bipush (x := 60) hk dX8_init_471 (by decide) ?_
  refine xj_bipush (x := 115) hk dX8_init_473 (by decide) ?_
  refine xj_bast2 (g := 21) (i := 15) (k := 60) (f2 := wlv 61) hk dX8_init_475 m59 rfl (xi_d 60 68 (by decide)) (by decide) (wlv_s rfl) ?_
  intro G60 n60 f60
  have m60 : G60 21 = [c0, c1, c2, c3, c4, c5, c6, c7, c8, c9, c10, c11, c12, c13, c14, xw_eb v 68 (wlv 61)] := n60
  have e60 : ∀ q, q ≠ 21 → G60 q = G q := fun q a => (f60 q a).trans (e59 q a)
  refine xj_dup hk dX8_init_476 rfl ?_
  refine xj_bipush (x := 61) hk dX8_init_477 (by decide) ?_
  refine xj_iconst (x := 0) hk dX8_init_479 (by decide) ?_
  refine xj_bast2 (g := 21) (i := 15) (k := 61) (f2 := wlv 62) hk dX8_init_480 m60 rfl (xi_d 61 68 (by decide)) (by decide) (wlv_s rfl) ?_
  intro G61 n61 f61
  have m61 : G61 21 = [c0, c1, c2, c3, c4, c5, c6, c7, c8, c9, c10, c11, c12, c13, c14, xw_eb v 68 (wlv 62)] := n61
  have e61 : ∀ q, q ≠ 21 → G61 q = G q := fun q a => (f61 q a).trans (e60 q a)
  refine xj_dup hk dX8_init_481 rfl ?_
  refine xj_bipush (x := 62) hk dX8_init_482 (by decide) ?_
  refine xj_bipush (x := 112) hk dX8_init_484 (by decide) ?_
  refine xj_bast2 (g := 21) (i := 15) (k := 62) (f2 := wlv 63) hk dX8_init_486 m61 rfl (xi_d 62 68 (by decide)) (by decide) (wlv_s rfl) ?_
  intro G62 n62 f62
  have m62 : G62 21 = [c0, c1, c2, c3, c4, c5, c6, c7, c8, c9, c10, c11, c12, c13, c14, xw_eb v 68 (wlv 63)] := n62
  have e62 : ∀ q, q ≠ 21 → G62 q = G q := fun q a => (f62 q a).trans (e61 q a)
  refine xj_dup hk dX8_init_487 rfl ?_
  refine xj_bipush (x := 63) hk dX8_init_488 (by decide) ?_
  refine xj_bipush (x := 108) hk dX8_init_490 (by decide) ?_
  refine xj_bast2 (g := 21) (i := 15) (k := 63) (f2 := wlv 64) hk dX8_init_492 m62 rfl (xi_d 63 68 (by decide)) (by decide) (wlv_s rfl) ?_
  intro G63 n63 f63
  have m63 : G63 21 = [c0, c1, c2, c3, c4, c5, c6, c7, c8, c9, c10, c11, c12, c13, c14, xw_eb v 68 (wlv 64)] := n63
  have e63 : ∀ q, q ≠ 21 → G63 q = G q := fun q a => (f63 q a).trans (e62 q a)
  refine xj_dup hk dX8_init_493 rfl ?_
  refine xj_bipush (x := 64) hk dX8_init_494 (by decide) ?_
  refine xj_bipush (x := 97) hk dX8_init_496 (by decide) ?_
  refine xj_bast2 (g := 21) (i := 15) (k := 64) (f2 := wlv 65) hk dX8_init_498 m63 rfl (xi_d 64 68 (by decide)) (by decide) (wlv_s rfl) ?_
  intro G64 n64 f64
  have m64 : G64 21 = [c0, c1, c2, c3, c4, c5, c6, c7, c8, c9, c10, c11, c12, c13, c14, xw_eb v 68 (wlv 65)] := n64
  have e64 : ∀ q, q ≠ 21 → G64 q = G q := fun q a => (f64 q a).trans (e63 q a)
  refine xj_dup hk dX8_init_499 rfl ?_
  refine xj_bipush (x := 65) hk dX8_init_500 (by decide) ?_
  refine xj_bipush (x := 105) hk dX8_init_502 (by decide) ?_
  refine xj_bast2 (g := 21) (i := 15) (k := 65) (f2 := wlv 66) hk dX8_init_504 m64 rfl (xi_d 65 68 (by decide)) (by decide) (wlv_s rfl) ?_
  intro G65 n65 f65
  have m65 : G65 21 = [c0, c1, c2, c3, c4, c5, c6, c7, c8, c9, c10, c11, c12, c13, c14, xw_eb v 68 (wlv 66)] := n65
  have e65 : ∀ q, q ≠ 21 → G65 q = G q := fun q a => (f65 q a).trans (e64 q a)
  refine xj_dup hk dX8_init_505 rfl ?_
  refine xj_bipush (x := 66) hk dX8_init_506 (by decide) ?_
  refine xj_bipush (x := 110) hk dX8_init_508 (by decide) ?_
  refine xj_bast2 (g := 21) (i := 15) (k := 66) (f2 := wlv 67) hk dX8_init_510 m65 rfl (xi_d 66 68 (by decide)) (by decide) (wlv_s rfl) ?_
  intro G66 n66 f66
  have m66 : G66 21 = [c0, c1, c2, c3, c4, c5, c6, c7, c8, c9, c10, c11, c12, c13, c14, xw_eb v 68 (wlv 67)] := n66
  have e66 : ∀ q, q ≠ 21 → G66 q = G q := fun q a => (f66 q a).trans (e65 q a)
  refine xj_dup hk dX8_init_511 rfl ?_
  refine xj_bipush (x := 67) hk dX8_init_512 (by decide) ?_
  refine xj_iconst (x := 0) hk dX8_init_514 (by decide) ?_
  refine xj_bast2 (g := 21) (i := 15) (k := 67) (f2 := wlv 68) hk dX8_init_515 m66 rfl (xi_d 67 68 (by decide)) (by decide) (wlv_s rfl) ?_
  intro G67 n67 f67
  have m67 : G67 21 = [c0, c1, c2, c3, c4, c5, c6, c7, c8, c9, c10, c11, c12, c13, c14, xw_eb v 68 (wlv 68)] := n67
  have e67 : ∀ q, q ≠ 21 → G67 q = G q := fun q a => (f67 q a).trans (e66 q a)
  exact kx G67 m67 e67
theorem nQ_0 {te ho ow hs ra lo : Nat → Int32} {bi : Int32} : nQ te ho ow hs ra lo bi (fun _ => 0) = nR te ho ow hs ra lo bi (fun _ => 0) (fun _ => 0) (fun _ => 0) 0 := by
  funext x
  by_cases q : x < 139
  · simp only [nQ, cpN, if_pos q]
  · simp only [nQ, cpN, if_neg q]; rw [nR_hi (by omega)]
set_option maxHeartbeats 1000000 in
set_option maxRecDepth 10000 in
theorem i_X8 {v : xw_V} {G : xw_G}  (hp : G 21 = [xw_eo 8 [.int 0, .null, .null, .null, .null, .null, .null, .int 0, .null, .null, .null, .null, .null, .null, .int 0, .int 0, .int 0, .int 0, .int 0, .int 0, .null, .int 0, .null, .int 0, .null, .int 0, .int 0, .int 0, .int 0, .int 0]]) : xk_ConZ v yX8_init cX8_init 1 none 1 21 [.ref (xw_ad v 21 0)] 192 15 4515 G (fun r G9 => r = none ∧ G9 21 = pM v 0 (nR TE0 (fun _ => 0) (cpN 8 nI (fun _ => 0)) (fun _ => 0) (fun _ => 0) (fun _ => 0) 0 (fun _ => 0) (fun _ => 0) (fun _ => 0) 0) ((fun _ => 0)) ((fun _ => 0)) ((fun _ => 0)) ((fun _ => 0)) ((fun _ => 0)) 0 ((fun _ => 0)) ((fun _ => 0)) ((fun _ => 0)) ((fun _ => 0)) ((fun _ => 0)) ((fun _ => 0)) 0 0 0 0 0 0 ((fun _ => 0)) 0 ((fun _ => 0)) 0 (wlv 68) 0 0 0 0 0 ∧ ∀ q, q ≠ 21 → G9 q = G q) := by
  refine xk_ofZ (ls0 := [some (.ref (xw_ad v 21 0))]) (by decide) rfl (Nat.le_of_ble_eq_true rfl) ?_
  intro κ hk hz
  refine xj_aload_n (i := 0) hk dX8_init_0 rfl rfl ?_
  refine xj_objinit hk dX8_init_1 oi_X8_7 oi_2.1 oi_2.2 (Nat.le_of_ble_eq_true rfl) (Nat.le_of_ble_eq_true rfl) ?_
  refine xj_aload_n (i := 0) hk dX8_init_4 rfl rfl ?_
  refine xj_sipush (x := 139) hk dX8_init_5 (by decide) ?_
  refine xj_newi2 (g := 21) (i := 1) (N := 139) hk dX8_init_8 (by rfl) (Nat.le_of_ble_eq_true rfl) (by decide) hp rfl rfl (xk_fit hz (Nat.le_of_ble_eq_true rfl) (Nat.le_of_ble_eq_true rfl)) ?_
  intro G1 hn1 hf1
  have h21_1 : G1 21 = [xw_eo 8 [.int 0, .null, .null, .null, .null, .null, .null, .int 0, .null, .null, .null, .null, .null, .null, .int 0, .int 0, .int 0, .int 0, .int 0, .int 0, .null, .int 0, .null, .int 0, .null, .int 0, .int 0, .int 0, .int 0, .int 0], xw_ei v 139 (fun _ => 0)] := hn1
  have hF1 : ∀ q, q ≠ 21 → G1 q = G q := fun q a0 => (hf1 q a0)
  refine xj_putf2 (g := 21) (i := 0) hk dX8_init_10 fl_X8_13 rfl rfl fg_X8_13 rfl rfl h21_1 rfl (Nat.le_of_ble_eq_true rfl) ?_
  intro G2 hn2 hf2
  have h21_2 : G2 21 = [xw_eo 8 [.int 0, .ref (xw_ad v 21 1), .null, .null, .null, .null, .null, .int 0, .null, .null, .null, .null, .null, .null, .int 0, .int 0, .int 0, .int 0, .int 0, .int 0, .null, .int 0, .null, .int 0, .null, .int 0, .int 0, .int 0, .int 0, .int 0], xw_ei v 139 (fun _ => 0)] := hn2
  have hF2 : ∀ q, q ≠ 21 → G2 q = G q := fun q a0 => (hf2 q a0).trans (hF1 q a0)
  refine xj_aload_n (i := 0) hk dX8_init_13 rfl rfl ?_
  refine xj_bipush (x := 8) hk dX8_init_14 (by decide) ?_
  refine xj_newl2 (g := 21) (i := 2) (N := 8) hk dX8_init_16 (by rfl) (Nat.le_of_ble_eq_true rfl) (by decide) h21_2 rfl rfl (xk_fit hz (Nat.le_of_ble_eq_true rfl) (Nat.le_of_ble_eq_true rfl)) ?_
  intro G3 hn3 hf3
  have h21_3 : G3 21 = [xw_eo 8 [.int 0, .ref (xw_ad v 21 1), .null, .null, .null, .null, .null, .int 0, .null, .null, .null, .null, .null, .null, .int 0, .int 0, .int 0, .int 0, .int 0, .int 0, .null, .int 0, .null, .int 0, .null, .int 0, .int 0, .int 0, .int 0, .int 0], xw_ei v 139 (fun _ => 0), xw_el v 8 (fun _ => 0)] := hn3
  have hF3 : ∀ q, q ≠ 21 → G3 q = G q := fun q a0 => (hf3 q a0).trans (hF2 q a0)
  refine xj_putf2 (g := 21) (i := 0) hk dX8_init_18 fl_X8_17 rfl rfl fg_X8_17 rfl rfl h21_3 rfl (Nat.le_of_ble_eq_true rfl) ?_
  intro G4 hn4 hf4
  have h21_4 : G4 21 = [xw_eo 8 [.int 0, .ref (xw_ad v 21 1), .ref (xw_ad v 21 2), .null, .null, .null, .null, .int 0, .null, .null, .null, .null, .null, .null, .int 0, .int 0, .int 0, .int 0, .int 0, .int 0, .null, .int 0, .null, .int 0, .null, .int 0, .int 0, .int 0, .int 0, .int 0], xw_ei v 139 (fun _ => 0), xw_el v 8 (fun _ => 0)] := hn4
  have hF4 : ∀ q, q ≠ 21 → G4 q = G q := fun q a0 => (hf4 q a0).trans (hF3 q a0)
  refine xj_aload_n (i := 0) hk dX8_init_21 rfl rfl ?_
  refine xj_sipush (x := 139) hk dX8_init_22 (by decide) ?_
  refine xj_newi2 (g := 21) (i := 3) (N := 139) hk dX8_init_25 (by rfl) (Nat.le_of_ble_eq_true rfl) (by decide) h21_4 rfl rfl (xk_fit hz (Nat.le_of_ble_eq_true rfl) (Nat.le_of_ble_eq_true rfl)) ?_
  intro G5 hn5 hf5
  have h21_5 : G5 21 = [xw_eo 8 [.int 0, .ref (xw_ad v 21 1), .ref (xw_ad v 21 2), .null, .null, .null, .null, .int 0, .null, .null, .null, .null, .null, .null, .int 0, .int 0, .int 0, .int 0, .int 0, .int 0, .null, .int 0, .null, .int 0, .null, .int 0, .int 0, .int 0, .int 0, .int 0], xw_ei v 139 (fun _ => 0), xw_el v 8 (fun _ => 0), xw_ei v 139 (fun _ => 0)] := hn5
  have hF5 : ∀ q, q ≠ 21 → G5 q = G q := fun q a0 => (hf5 q a0).trans (hF4 q a0)
  refine xj_putf2 (g := 21) (i := 0) hk dX8_init_27 fl_X8_21 rfl rfl fg_X8_21 rfl rfl h21_5 rfl (Nat.le_of_ble_eq_true rfl) ?_
  intro G6 hn6 hf6
  have h21_6 : G6 21 = [xw_eo 8 [.int 0, .ref (xw_ad v 21 1), .ref (xw_ad v 21 2), .ref (xw_ad v 21 3), .null, .null, .null, .int 0, .null, .null, .null, .null, .null, .null, .int 0, .int 0, .int 0, .int 0, .int 0, .int 0, .null, .int 0, .null, .int 0, .null, .int 0, .int 0, .int 0, .int 0, .int 0], xw_ei v 139 (fun _ => 0), xw_el v 8 (fun _ => 0), xw_ei v 139 (fun _ => 0)] := hn6
  have hF6 : ∀ q, q ≠ 21 → G6 q = G q := fun q a0 => (hf6 q a0).trans (hF5 q a0)
  refine xj_aload_n (i := 0) hk dX8_init_30 rfl rfl ?_
  refine xj_sipush (x := 139) hk dX8_init_31 (by decide) ?_
  refine xj_newi2 (g := 21) (i := 4) (N := 139) hk dX8_init_34 (by rfl) (Nat.le_of_ble_eq_true rfl) (by decide) h21_6 rfl rfl (xk_fit hz (Nat.le_of_ble_eq_true rfl) (Nat.le_of_ble_eq_true rfl)) ?_
  intro G7 hn7 hf7
  have h21_7 : G7 21 = [xw_eo 8 [.int 0, .ref (xw_ad v 21 1), .ref (xw_ad v 21 2), .ref (xw_ad v 21 3), .null, .null, .null, .int 0, .null, .null, .null, .null, .null, .null, .int 0, .int 0, .int 0, .int 0, .int 0, .int 0, .null, .int 0, .null, .int 0, .null, .int 0, .int 0, .int 0, .int 0, .int 0], xw_ei v 139 (fun _ => 0), xw_el v 8 (fun _ => 0), xw_ei v 139 (fun _ => 0), xw_ei v 139 (fun _ => 0)] := hn7
  have hF7 : ∀ q, q ≠ 21 → G7 q = G q := fun q a0 => (hf7 q a0).trans (hF6 q a0)
  refine xj_putf2 (g := 21) (i := 0) hk dX8_init_36 fl_X8_24 rfl rfl fg_X8_24 rfl rfl h21_7 rfl (Nat.le_of_ble_eq_true rfl) ?_
  intro G8 hn8 hf8
  have h21_8 : G8 21 = [xw_eo 8 [.int 0, .ref (xw_ad v 21 1), .ref (xw_ad v 21 2), .ref (xw_ad v 21 3), .ref (xw_ad v 21 4), .null, .null, .int 0, .null, .null, .null, .null, .null, .null, .int 0, .int 0, .int 0, .int 0, .int 0, .int 0, .null, .int 0, .null, .int 0, .null, .int 0, .int 0, .int 0, .int 0, .int 0], xw_ei v 139 (fun _ => 0), xw_el v 8 (fun _ => 0), xw_ei v 139 (fun _ => 0), xw_ei v 139 (fun _ => 0)] := hn8
  have hF8 : ∀ q, q ≠ 21 → G8 q = G q := fun q a0 => (hf8 q a0).trans (hF7 q a0)
  refine xj_aload_n (i := 0) hk dX8_init_39 rfl rfl ?_
  refine xj_sipush (x := 1668) hk dX8_init_40 (by decide) ?_
  refine xj_newi2 (g := 21) (i := 5) (N := 1668) hk dX8_init_43 (by rfl) (Nat.le_of_ble_eq_true rfl) (by decide) h21_8 rfl rfl (xk_fit hz (Nat.le_of_ble_eq_true rfl) (Nat.le_of_ble_eq_true rfl)) ?_
  intro G9 hn9 hf9
  have h21_9 : G9 21 = [xw_eo 8 [.int 0, .ref (xw_ad v 21 1), .ref (xw_ad v 21 2), .ref (xw_ad v 21 3), .ref (xw_ad v 21 4), .null, .null, .int 0, .null, .null, .null, .null, .null, .null, .int 0, .int 0, .int 0, .int 0, .int 0, .int 0, .null, .int 0, .null, .int 0, .null, .int 0, .int 0, .int 0, .int 0, .int 0], xw_ei v 139 (fun _ => 0), xw_el v 8 (fun _ => 0), xw_ei v 139 (fun _ => 0), xw_ei v 139 (fun _ => 0), xw_ei v 1668 (fun _ => 0)] := hn9
  have hF9 : ∀ q, q ≠ 21 → G9 q = G q := fun q a0 => (hf9 q a0).trans (hF8 q a0)
  refine xj_putf2 (g := 21) (i := 0) hk dX8_init_45 fl_X8_27 rfl rfl fg_X8_27 rfl rfl h21_9 rfl (Nat.le_of_ble_eq_true rfl) ?_
  intro G10 hn10 hf10
  have h21_10 : G10 21 = [xw_eo 8 [.int 0, .ref (xw_ad v 21 1), .ref (xw_ad v 21 2), .ref (xw_ad v 21 3), .ref (xw_ad v 21 4), .ref (xw_ad v 21 5), .null, .int 0, .null, .null, .null, .null, .null, .null, .int 0, .int 0, .int 0, .int 0, .int 0, .int 0, .null, .int 0, .null, .int 0, .null, .int 0, .int 0, .int 0, .int 0, .int 0], xw_ei v 139 (fun _ => 0), xw_el v 8 (fun _ => 0), xw_ei v 139 (fun _ => 0), xw_ei v 139 (fun _ => 0), xw_ei v 1668 (fun _ => 0)] := hn10
  have hF10 : ∀ q, q ≠ 21 → G10 q = G q := fun q a0 => (hf10 q a0).trans (hF9 q a0)
  refine xj_aload_n (i := 0) hk dX8_init_48 rfl rfl ?_
  refine xj_bipush (x := 96) hk dX8_init_49 (by decide) ?_
  refine xj_newl2 (g := 21) (i := 6) (N := 96) hk dX8_init_51 (by rfl) (Nat.le_of_ble_eq_true rfl) (by decide) h21_10 rfl rfl (xk_fit hz (Nat.le_of_ble_eq_true rfl) (Nat.le_of_ble_eq_true rfl)) ?_
  intro G11 hn11 hf11
  have h21_11 : G11 21 = [xw_eo 8 [.int 0, .ref (xw_ad v 21 1), .ref (xw_ad v 21 2), .ref (xw_ad v 21 3), .ref (xw_ad v 21 4), .ref (xw_ad v 21 5), .null, .int 0, .null, .null, .null, .null, .null, .null, .int 0, .int 0, .int 0, .int 0, .int 0, .int 0, .null, .int 0, .null, .int 0, .null, .int 0, .int 0, .int 0, .int 0, .int 0], xw_ei v 139 (fun _ => 0), xw_el v 8 (fun _ => 0), xw_ei v 139 (fun _ => 0), xw_ei v 139 (fun _ => 0), xw_ei v 1668 (fun _ => 0), xw_el v 96 (fun _ => 0)] := hn11
  have hF11 : ∀ q, q ≠ 21 → G11 q = G q := fun q a0 => (hf11 q a0).trans (hF10 q a0)
  refine xj_putf2 (g := 21) (i := 0) hk dX8_init_53 fl_X8_30 rfl rfl fg_X8_30 rfl rfl h21_11 rfl (Nat.le_of_ble_eq_true rfl) ?_
  intro G12 hn12 hf12
  have h21_12 : G12 21 = [xw_eo 8 [.int 0, .ref (xw_ad v 21 1), .ref (xw_ad v 21 2), .ref (xw_ad v 21 3), .ref (xw_ad v 21 4), .ref (xw_ad v 21 5), .ref (xw_ad v 21 6), .int 0, .null, .null, .null, .null, .null, .null, .int 0, .int 0, .int 0, .int 0, .int 0, .int 0, .null, .int 0, .null, .int 0, .null, .int 0, .int 0, .int 0, .int 0, .int 0], xw_ei v 139 (fun _ => 0), xw_el v 8 (fun _ => 0), xw_ei v 139 (fun _ => 0), xw_ei v 139 (fun _ => 0), xw_ei v 1668 (fun _ => 0), xw_el v 96 (fun _ => 0)] := hn12
  have hF12 : ∀ q, q ≠ 21 → G12 q = G q := fun q a0 => (hf12 q a0).trans (hF11 q a0)
  refine xj_aload_n (i := 0) hk dX8_init_56 rfl rfl ?_
  refine xj_bipush (x := 30) hk dX8_init_57 (by decide) ?_
  refine xj_newi2 (g := 21) (i := 7) (N := 30) hk dX8_init_59 (by rfl) (Nat.le_of_ble_eq_true rfl) (by decide) h21_12 rfl rfl (xk_fit hz (Nat.le_of_ble_eq_true rfl) (Nat.le_of_ble_eq_true rfl)) ?_
  intro G13 hn13 hf13
  have h21_13 : G13 21 = [xw_eo 8 [.int 0, .ref (xw_ad v 21 1), .ref (xw_ad v 21 2), .ref (xw_ad v 21 3), .ref (xw_ad v 21 4), .ref (xw_ad v 21 5), .ref (xw_ad v 21 6), .int 0, .null, .null, .null, .null, .null, .null, .int 0, .int 0, .int 0, .int 0, .int 0, .int 0, .null, .int 0, .null, .int 0, .null, .int 0, .int 0, .int 0, .int 0, .int 0], xw_ei v 139 (fun _ => 0), xw_el v 8 (fun _ => 0), xw_ei v 139 (fun _ => 0), xw_ei v 139 (fun _ => 0), xw_ei v 1668 (fun _ => 0), xw_el v 96 (fun _ => 0), xw_ei v 30 (fun _ => 0)] := hn13
  have hF13 : ∀ q, q ≠ 21 → G13 q = G q := fun q a0 => (hf13 q a0).trans (hF12 q a0)
  refine xj_putf2 (g := 21) (i := 0) hk dX8_init_61 fl_X8_33 rfl rfl fg_X8_33 rfl rfl h21_13 rfl (Nat.le_of_ble_eq_true rfl) ?_
  intro G14 hn14 hf14
  have h21_14 : G14 21 = [xw_eo 8 [.int 0, .ref (xw_ad v 21 1), .ref (xw_ad v 21 2), .ref (xw_ad v 21 3), .ref (xw_ad v 21 4), .ref (xw_ad v 21 5), .ref (xw_ad v 21 6), .int 0, .ref (xw_ad v 21 7), .null, .null, .null, .null, .null, .int 0, .int 0, .int 0, .int 0, .int 0, .int 0, .null, .int 0, .null, .int 0, .null, .int 0, .int 0, .int 0, .int 0, .int 0], xw_ei v 139 (fun _ => 0), xw_el v 8 (fun _ => 0), xw_ei v 139 (fun _ => 0), xw_ei v 139 (fun _ => 0), xw_ei v 1668 (fun _ => 0), xw_el v 96 (fun _ => 0), xw_ei v 30 (fun _ => 0)] := hn14
  have hF14 : ∀ q, q ≠ 21 → G14 q = G q := fun q a0 => (hf14 q a0).trans (hF13 q a0)
  refine xj_aload_n (i := 0) hk dX8_init_64 rfl rfl ?_
  refine xj_bipush (x := 30) hk dX8_init_65 (by decide) ?_
  refine xj_newi2 (g := 21) (i := 8) (N := 30) hk dX8_init_67 (by rfl) (Nat.le_of_ble_eq_true rfl) (by decide) h21_14 rfl rfl (xk_fit hz (Nat.le_of_ble_eq_true rfl) (Nat.le_of_ble_eq_true rfl)) ?_
  intro G15 hn15 hf15
  have h21_15 : G15 21 = [xw_eo 8 [.int 0, .ref (xw_ad v 21 1), .ref (xw_ad v 21 2), .ref (xw_ad v 21 3), .ref (xw_ad v 21 4), .ref (xw_ad v 21 5), .ref (xw_ad v 21 6), .int 0, .ref (xw_ad v 21 7), .null, .null, .null, .null, .null, .int 0, .int 0, .int 0, .int 0, .int 0, .int 0, .null, .int 0, .null, .int 0, .null, .int 0, .int 0, .int 0, .int 0, .int 0], xw_ei v 139 (fun _ => 0), xw_el v 8 (fun _ => 0), xw_ei v 139 (fun _ => 0), xw_ei v 139 (fun _ => 0), xw_ei v 1668 (fun _ => 0), xw_el v 96 (fun _ => 0), xw_ei v 30 (fun _ => 0), xw_ei v 30 (fun _ => 0)] := hn15
  have hF15 : ∀ q, q ≠ 21 → G15 q = G q := fun q a0 => (hf15 q a0).trans (hF14 q a0)
  refine xj_putf2 (g := 21) (i := 0) hk dX8_init_69 fl_X8_36 rfl rfl fg_X8_36 rfl rfl h21_15 rfl (Nat.le_of_ble_eq_true rfl) ?_
  intro G16 hn16 hf16
  have h21_16 : G16 21 = [xw_eo 8 [.int 0, .ref (xw_ad v 21 1), .ref (xw_ad v 21 2), .ref (xw_ad v 21 3), .ref (xw_ad v 21 4), .ref (xw_ad v 21 5), .ref (xw_ad v 21 6), .int 0, .ref (xw_ad v 21 7), .ref (xw_ad v 21 8), .null, .null, .null, .null, .int 0, .int 0, .int 0, .int 0, .int 0, .int 0, .null, .int 0, .null, .int 0, .null, .int 0, .int 0, .int 0, .int 0, .int 0], xw_ei v 139 (fun _ => 0), xw_el v 8 (fun _ => 0), xw_ei v 139 (fun _ => 0), xw_ei v 139 (fun _ => 0), xw_ei v 1668 (fun _ => 0), xw_el v 96 (fun _ => 0), xw_ei v 30 (fun _ => 0), xw_ei v 30 (fun _ => 0)] := hn16
  have hF16 : ∀ q, q ≠ 21 → G16 q = G q := fun q a0 => (hf16 q a0).trans (hF15 q a0)
  refine xj_aload_n (i := 0) hk dX8_init_72 rfl rfl ?_
  refine xj_bipush (x := 30) hk dX8_init_73 (by decide) ?_
  refine xj_newi2 (g := 21) (i := 9) (N := 30) hk dX8_init_75 (by rfl) (Nat.le_of_ble_eq_true rfl) (by decide) h21_16 rfl rfl (xk_fit hz (Nat.le_of_ble_eq_true rfl) (Nat.le_of_ble_eq_true rfl)) ?_
  intro G17 hn17 hf17
  have h21_17 : G17 21 = [xw_eo 8 [.int 0, .ref (xw_ad v 21 1), .ref (xw_ad v 21 2), .ref (xw_ad v 21 3), .ref (xw_ad v 21 4), .ref (xw_ad v 21 5), .ref (xw_ad v 21 6), .int 0, .ref (xw_ad v 21 7), .ref (xw_ad v 21 8), .null, .null, .null, .null, .int 0, .int 0, .int 0, .int 0, .int 0, .int 0, .null, .int 0, .null, .int 0, .null, .int 0, .int 0, .int 0, .int 0, .int 0], xw_ei v 139 (fun _ => 0), xw_el v 8 (fun _ => 0), xw_ei v 139 (fun _ => 0), xw_ei v 139 (fun _ => 0), xw_ei v 1668 (fun _ => 0), xw_el v 96 (fun _ => 0), xw_ei v 30 (fun _ => 0), xw_ei v 30 (fun _ => 0), xw_ei v 30 (fun _ => 0)] := hn17
  have hF17 : ∀ q, q ≠ 21 → G17 q = G q := fun q a0 => (hf17 q a0).trans (hF16 q a0)
  refine xj_putf2 (g := 21) (i := 0) hk dX8_init_77 fl_X8_39 rfl rfl fg_X8_39 rfl rfl h21_17 rfl (Nat.le_of_ble_eq_true rfl) ?_
  intro G18 hn18 hf18
  have h21_18 : G18 21 = [xw_eo 8 [.int 0, .ref (xw_ad v 21 1), .ref (xw_ad v 21 2), .ref (xw_ad v 21 3), .ref (xw_ad v 21 4), .ref (xw_ad v 21 5), .ref (xw_ad v 21 6), .int 0, .ref (xw_ad v 21 7), .ref (xw_ad v 21 8), .ref (xw_ad v 21 9), .null, .null, .null, .int 0, .int 0, .int 0, .int 0, .int 0, .int 0, .null, .int 0, .null, .int 0, .null, .int 0, .int 0, .int 0, .int 0, .int 0], xw_ei v 139 (fun _ => 0), xw_el v 8 (fun _ => 0), xw_ei v 139 (fun _ => 0), xw_ei v 139 (fun _ => 0), xw_ei v 1668 (fun _ => 0), xw_el v 96 (fun _ => 0), xw_ei v 30 (fun _ => 0), xw_ei v 30 (fun _ => 0), xw_ei v 30 (fun _ => 0)] := hn18
  have hF18 : ∀ q, q ≠ 21 → G18 q = G q := fun q a0 => (hf18 q a0).trans (hF17 q a0)
  refine xj_aload_n (i := 0) hk dX8_init_80 rfl rfl ?_
  refine xj_bipush (x := 30) hk dX8_init_81 (by decide) ?_
  refine xj_newi2 (g := 21) (i := 10) (N := 30) hk dX8_init_83 (by rfl) (Nat.le_of_ble_eq_true rfl) (by decide) h21_18 rfl rfl (xk_fit hz (Nat.le_of_ble_eq_true rfl) (Nat.le_of_ble_eq_true rfl)) ?_
  intro G19 hn19 hf19
  have h21_19 : G19 21 = [xw_eo 8 [.int 0, .ref (xw_ad v 21 1), .ref (xw_ad v 21 2), .ref (xw_ad v 21 3), .ref (xw_ad v 21 4), .ref (xw_ad v 21 5), .ref (xw_ad v 21 6), .int 0, .ref (xw_ad v 21 7), .ref (xw_ad v 21 8), .ref (xw_ad v 21 9), .null, .null, .null, .int 0, .int 0, .int 0, .int 0, .int 0, .int 0, .null, .int 0, .null, .int 0, .null, .int 0, .int 0, .int 0, .int 0, .int 0], xw_ei v 139 (fun _ => 0), xw_el v 8 (fun _ => 0), xw_ei v 139 (fun _ => 0), xw_ei v 139 (fun _ => 0), xw_ei v 1668 (fun _ => 0), xw_el v 96 (fun _ => 0), xw_ei v 30 (fun _ => 0), xw_ei v 30 (fun _ => 0), xw_ei v 30 (fun _ => 0), xw_ei v 30 (fun _ => 0)] := hn19
  have hF19 : ∀ q, q ≠ 21 → G19 q = G q := fun q a0 => (hf19 q a0).trans (hF18 q a0)
  refine xj_putf2 (g := 21) (i := 0) hk dX8_init_85 fl_X8_42 rfl rfl fg_X8_42 rfl rfl h21_19 rfl (Nat.le_of_ble_eq_true rfl) ?_
  intro G20 hn20 hf20
  have h21_20 : G20 21 = [xw_eo 8 [.int 0, .ref (xw_ad v 21 1), .ref (xw_ad v 21 2), .ref (xw_ad v 21 3), .ref (xw_ad v 21 4), .ref (xw_ad v 21 5), .ref (xw_ad v 21 6), .int 0, .ref (xw_ad v 21 7), .ref (xw_ad v 21 8), .ref (xw_ad v 21 9), .ref (xw_ad v 21 10), .null, .null, .int 0, .int 0, .int 0, .int 0, .int 0, .int 0, .null, .int 0, .null, .int 0, .null, .int 0, .int 0, .int 0, .int 0, .int 0], xw_ei v 139 (fun _ => 0), xw_el v 8 (fun _ => 0), xw_ei v 139 (fun _ => 0), xw_ei v 139 (fun _ => 0), xw_ei v 1668 (fun _ => 0), xw_el v 96 (fun _ => 0), xw_ei v 30 (fun _ => 0), xw_ei v 30 (fun _ => 0), xw_ei v 30 (fun _ => 0), xw_ei v 30 (fun _ => 0)] := hn20
  have hF20 : ∀ q, q ≠ 21 → G20 q = G q := fun q a0 => (hf20 q a0).trans (hF19 q a0)
  refine xj_aload_n (i := 0) hk dX8_init_88 rfl rfl ?_
  refine xj_bipush (x := 8) hk dX8_init_89 (by decide) ?_
  refine xj_newi2 (g := 21) (i := 11) (N := 8) hk dX8_init_91 (by rfl) (Nat.le_of_ble_eq_true rfl) (by decide) h21_20 rfl rfl (xk_fit hz (Nat.le_of_ble_eq_true rfl) (Nat.le_of_ble_eq_true rfl)) ?_
  intro G21 hn21 hf21
  have h21_21 : G21 21 = [xw_eo 8 [.int 0, .ref (xw_ad v 21 1), .ref (xw_ad v 21 2), .ref (xw_ad v 21 3), .ref (xw_ad v 21 4), .ref (xw_ad v 21 5), .ref (xw_ad v 21 6), .int 0, .ref (xw_ad v 21 7), .ref (xw_ad v 21 8), .ref (xw_ad v 21 9), .ref (xw_ad v 21 10), .null, .null, .int 0, .int 0, .int 0, .int 0, .int 0, .int 0, .null, .int 0, .null, .int 0, .null, .int 0, .int 0, .int 0, .int 0, .int 0], xw_ei v 139 (fun _ => 0), xw_el v 8 (fun _ => 0), xw_ei v 139 (fun _ => 0), xw_ei v 139 (fun _ => 0), xw_ei v 1668 (fun _ => 0), xw_el v 96 (fun _ => 0), xw_ei v 30 (fun _ => 0), xw_ei v 30 (fun _ => 0), xw_ei v 30 (fun _ => 0), xw_ei v 30 (fun _ => 0), xw_ei v 8 (fun _ => 0)] := hn21
  have hF21 : ∀ q, q ≠ 21 → G21 q = G q := fun q a0 => (hf21 q a0).trans (hF20 q a0)
  refine xj_putf2 (g := 21) (i := 0) hk dX8_init_93 fl_X8_45 rfl rfl fg_X8_45 rfl rfl h21_21 rfl (Nat.le_of_ble_eq_true rfl) ?_
  intro G22 hn22 hf22
  have h21_22 : G22 21 = [xw_eo 8 [.int 0, .ref (xw_ad v 21 1), .ref (xw_ad v 21 2), .ref (xw_ad v 21 3), .ref (xw_ad v 21 4), .ref (xw_ad v 21 5), .ref (xw_ad v 21 6), .int 0, .ref (xw_ad v 21 7), .ref (xw_ad v 21 8), .ref (xw_ad v 21 9), .ref (xw_ad v 21 10), .ref (xw_ad v 21 11), .null, .int 0, .int 0, .int 0, .int 0, .int 0, .int 0, .null, .int 0, .null, .int 0, .null, .int 0, .int 0, .int 0, .int 0, .int 0], xw_ei v 139 (fun _ => 0), xw_el v 8 (fun _ => 0), xw_ei v 139 (fun _ => 0), xw_ei v 139 (fun _ => 0), xw_ei v 1668 (fun _ => 0), xw_el v 96 (fun _ => 0), xw_ei v 30 (fun _ => 0), xw_ei v 30 (fun _ => 0), xw_ei v 30 (fun _ => 0), xw_ei v 30 (fun _ => 0), xw_ei v 8 (fun _ => 0)] := hn22
  have hF22 : ∀ q, q ≠ 21 → G22 q = G q := fun q a0 => (hf22 q a0).trans (hF21 q a0)
  refine xj_aload_n (i := 0) hk dX8_init_96 rfl rfl ?_
  refine xj_bipush (x := 30) hk dX8_init_97 (by decide) ?_
  refine xj_newz2 (g := 21) (i := 12) (N := 30) hk dX8_init_99 (by rfl) (Nat.le_of_ble_eq_true rfl) (by decide) h21_22 rfl rfl (xk_fit hz (Nat.le_of_ble_eq_true rfl) (Nat.le_of_ble_eq_true rfl)) ?_
  intro G23 hn23 hf23
  have h21_23 : G23 21 = [xw_eo 8 [.int 0, .ref (xw_ad v 21 1), .ref (xw_ad v 21 2), .ref (xw_ad v 21 3), .ref (xw_ad v 21 4), .ref (xw_ad v 21 5), .ref (xw_ad v 21 6), .int 0, .ref (xw_ad v 21 7), .ref (xw_ad v 21 8), .ref (xw_ad v 21 9), .ref (xw_ad v 21 10), .ref (xw_ad v 21 11), .null, .int 0, .int 0, .int 0, .int 0, .int 0, .int 0, .null, .int 0, .null, .int 0, .null, .int 0, .int 0, .int 0, .int 0, .int 0], xw_ei v 139 (fun _ => 0), xw_el v 8 (fun _ => 0), xw_ei v 139 (fun _ => 0), xw_ei v 139 (fun _ => 0), xw_ei v 1668 (fun _ => 0), xw_el v 96 (fun _ => 0), xw_ei v 30 (fun _ => 0), xw_ei v 30 (fun _ => 0), xw_ei v 30 (fun _ => 0), xw_ei v 30 (fun _ => 0), xw_ei v 8 (fun _ => 0), xw_ez v 30 (fun _ => 0)] := hn23
  have hF23 : ∀ q, q ≠ 21 → G23 q = G q := fun q a0 => (hf23 q a0).trans (hF22 q a0)
  refine xj_putf2 (g := 21) (i := 0) hk dX8_init_101 fl_X8_48 rfl rfl fg_X8_48 rfl rfl h21_23 rfl (Nat.le_of_ble_eq_true rfl) ?_
  intro G24 hn24 hf24
  have h21_24 : G24 21 = [xw_eo 8 [.int 0, .ref (xw_ad v 21 1), .ref (xw_ad v 21 2), .ref (xw_ad v 21 3), .ref (xw_ad v 21 4), .ref (xw_ad v 21 5), .ref (xw_ad v 21 6), .int 0, .ref (xw_ad v 21 7), .ref (xw_ad v 21 8), .ref (xw_ad v 21 9), .ref (xw_ad v 21 10), .ref (xw_ad v 21 11), .ref (xw_ad v 21 12), .int 0, .int 0, .int 0, .int 0, .int 0, .int 0, .null, .int 0, .null, .int 0, .null, .int 0, .int 0, .int 0, .int 0, .int 0], xw_ei v 139 (fun _ => 0), xw_el v 8 (fun _ => 0), xw_ei v 139 (fun _ => 0), xw_ei v 139 (fun _ => 0), xw_ei v 1668 (fun _ => 0), xw_el v 96 (fun _ => 0), xw_ei v 30 (fun _ => 0), xw_ei v 30 (fun _ => 0), xw_ei v 30 (fun _ => 0), xw_ei v 30 (fun _ => 0), xw_ei v 8 (fun _ => 0), xw_ez v 30 (fun _ => 0)] := hn24
  have hF24 : ∀ q, q ≠ 21 → G24 q = G q := fun q a0 => (hf24 q a0).trans (hF23 q a0)
  refine xj_aload_n (i := 0) hk dX8_init_104 rfl rfl ?_
  refine xj_sipush (x := 1400) hk dX8_init_105 (by decide) ?_
  refine xj_newi2 (g := 21) (i := 13) (N := 1400) hk dX8_init_108 (by rfl) (Nat.le_of_ble_eq_true rfl) (by decide) h21_24 rfl rfl (xk_fit hz (Nat.le_of_ble_eq_true rfl) (Nat.le_of_ble_eq_true rfl)) ?_
  intro G25 hn25 hf25
  have h21_25 : G25 21 = [xw_eo 8 [.int 0, .ref (xw_ad v 21 1), .ref (xw_ad v 21 2), .ref (xw_ad v 21 3), .ref (xw_ad v 21 4), .ref (xw_ad v 21 5), .ref (xw_ad v 21 6), .int 0, .ref (xw_ad v 21 7), .ref (xw_ad v 21 8), .ref (xw_ad v 21 9), .ref (xw_ad v 21 10), .ref (xw_ad v 21 11), .ref (xw_ad v 21 12), .int 0, .int 0, .int 0, .int 0, .int 0, .int 0, .null, .int 0, .null, .int 0, .null, .int 0, .int 0, .int 0, .int 0, .int 0], xw_ei v 139 (fun _ => 0), xw_el v 8 (fun _ => 0), xw_ei v 139 (fun _ => 0), xw_ei v 139 (fun _ => 0), xw_ei v 1668 (fun _ => 0), xw_el v 96 (fun _ => 0), xw_ei v 30 (fun _ => 0), xw_ei v 30 (fun _ => 0), xw_ei v 30 (fun _ => 0), xw_ei v 30 (fun _ => 0), xw_ei v 8 (fun _ => 0), xw_ez v 30 (fun _ => 0), xw_ei v 1400 (fun _ => 0)] := hn25
  have hF25 : ∀ q, q ≠ 21 → G25 q = G q := fun q a0 => (hf25 q a0).trans (hF24 q a0)
  refine xj_putf2 (g := 21) (i := 0) hk dX8_init_110 fl_X8_52 rfl rfl fg_X8_52 rfl rfl h21_25 rfl (Nat.le_of_ble_eq_true rfl) ?_
  intro G26 hn26 hf26
  have h21_26 : G26 21 = [xw_eo 8 [.int 0, .ref (xw_ad v 21 1), .ref (xw_ad v 21 2), .ref (xw_ad v 21 3), .ref (xw_ad v 21 4), .ref (xw_ad v 21 5), .ref (xw_ad v 21 6), .int 0, .ref (xw_ad v 21 7), .ref (xw_ad v 21 8), .ref (xw_ad v 21 9), .ref (xw_ad v 21 10), .ref (xw_ad v 21 11), .ref (xw_ad v 21 12), .int 0, .int 0, .int 0, .int 0, .int 0, .int 0, .ref (xw_ad v 21 13), .int 0, .null, .int 0, .null, .int 0, .int 0, .int 0, .int 0, .int 0], xw_ei v 139 (fun _ => 0), xw_el v 8 (fun _ => 0), xw_ei v 139 (fun _ => 0), xw_ei v 139 (fun _ => 0), xw_ei v 1668 (fun _ => 0), xw_el v 96 (fun _ => 0), xw_ei v 30 (fun _ => 0), xw_ei v 30 (fun _ => 0), xw_ei v 30 (fun _ => 0), xw_ei v 30 (fun _ => 0), xw_ei v 8 (fun _ => 0), xw_ez v 30 (fun _ => 0), xw_ei v 1400 (fun _ => 0)] := hn26
  have hF26 : ∀ q, q ≠ 21 → G26 q = G q := fun q a0 => (hf26 q a0).trans (hF25 q a0)
  refine xj_aload_n (i := 0) hk dX8_init_113 rfl rfl ?_
  refine xj_sipush (x := 700) hk dX8_init_114 (by decide) ?_
  refine xj_newi2 (g := 21) (i := 14) (N := 700) hk dX8_init_117 (by rfl) (Nat.le_of_ble_eq_true rfl) (by decide) h21_26 rfl rfl (xk_fit hz (Nat.le_of_ble_eq_true rfl) (Nat.le_of_ble_eq_true rfl)) ?_
  intro G27 hn27 hf27
  have h21_27 : G27 21 = [xw_eo 8 [.int 0, .ref (xw_ad v 21 1), .ref (xw_ad v 21 2), .ref (xw_ad v 21 3), .ref (xw_ad v 21 4), .ref (xw_ad v 21 5), .ref (xw_ad v 21 6), .int 0, .ref (xw_ad v 21 7), .ref (xw_ad v 21 8), .ref (xw_ad v 21 9), .ref (xw_ad v 21 10), .ref (xw_ad v 21 11), .ref (xw_ad v 21 12), .int 0, .int 0, .int 0, .int 0, .int 0, .int 0, .ref (xw_ad v 21 13), .int 0, .null, .int 0, .null, .int 0, .int 0, .int 0, .int 0, .int 0], xw_ei v 139 (fun _ => 0), xw_el v 8 (fun _ => 0), xw_ei v 139 (fun _ => 0), xw_ei v 139 (fun _ => 0), xw_ei v 1668 (fun _ => 0), xw_el v 96 (fun _ => 0), xw_ei v 30 (fun _ => 0), xw_ei v 30 (fun _ => 0), xw_ei v 30 (fun _ => 0), xw_ei v 30 (fun _ => 0), xw_ei v 8 (fun _ => 0), xw_ez v 30 (fun _ => 0), xw_ei v 1400 (fun _ => 0), xw_ei v 700 (fun _ => 0)] := hn27
  have hF27 : ∀ q, q ≠ 21 → G27 q = G q := fun q a0 => (hf27 q a0).trans (hF26 q a0)
  refine xj_putf2 (g := 21) (i := 0) hk dX8_init_119 fl_X8_55 rfl rfl fg_X8_55 rfl rfl h21_27 rfl (Nat.le_of_ble_eq_true rfl) ?_
  intro G28 hn28 hf28
  have h21_28 : G28 21 = [xw_eo 8 [.int 0, .ref (xw_ad v 21 1), .ref (xw_ad v 21 2), .ref (xw_ad v 21 3), .ref (xw_ad v 21 4), .ref (xw_ad v 21 5), .ref (xw_ad v 21 6), .int 0, .ref (xw_ad v 21 7), .ref (xw_ad v 21 8), .ref (xw_ad v 21 9), .ref (xw_ad v 21 10), .ref (xw_ad v 21 11), .ref (xw_ad v 21 12), .int 0, .int 0, .int 0, .int 0, .int 0, .int 0, .ref (xw_ad v 21 13), .int 0, .ref (xw_ad v 21 14), .int 0, .null, .int 0, .int 0, .int 0, .int 0, .int 0], xw_ei v 139 (fun _ => 0), xw_el v 8 (fun _ => 0), xw_ei v 139 (fun _ => 0), xw_ei v 139 (fun _ => 0), xw_ei v 1668 (fun _ => 0), xw_el v 96 (fun _ => 0), xw_ei v 30 (fun _ => 0), xw_ei v 30 (fun _ => 0), xw_ei v 30 (fun _ => 0), xw_ei v 30 (fun _ => 0), xw_ei v 8 (fun _ => 0), xw_ez v 30 (fun _ => 0), xw_ei v 1400 (fun _ => 0), xw_ei v 700 (fun _ => 0)] := hn28
  have hF28 : ∀ q, q ≠ 21 → G28 q = G q := fun q a0 => (hf28 q a0).trans (hF27 q a0)
  refine xj_aload_n (i := 0) hk dX8_init_122 rfl rfl ?_
  refine xj_bipush (x := 68) hk dX8_init_123 (by decide) ?_
  refine xj_newb2 (g := 21) (i := 15) (N := 68) hk dX8_init_125 (by rfl) (Nat.le_of_ble_eq_true rfl) (by decide) h21_28 rfl rfl (xk_fit hz (Nat.le_of_ble_eq_true rfl) (Nat.le_of_ble_eq_true rfl)) ?_
  intro G29 hn29 hf29
  have h21_29 : G29 21 = [xw_eo 8 [.int 0, .ref (xw_ad v 21 1), .ref (xw_ad v 21 2), .ref (xw_ad v 21 3), .ref (xw_ad v 21 4), .ref (xw_ad v 21 5), .ref (xw_ad v 21 6), .int 0, .ref (xw_ad v 21 7), .ref (xw_ad v 21 8), .ref (xw_ad v 21 9), .ref (xw_ad v 21 10), .ref (xw_ad v 21 11), .ref (xw_ad v 21 12), .int 0, .int 0, .int 0, .int 0, .int 0, .int 0, .ref (xw_ad v 21 13), .int 0, .ref (xw_ad v 21 14), .int 0, .null, .int 0, .int 0, .int 0, .int 0, .int 0], xw_ei v 139 (fun _ => 0), xw_el v 8 (fun _ => 0), xw_ei v 139 (fun _ => 0), xw_ei v 139 (fun _ => 0), xw_ei v 1668 (fun _ => 0), xw_el v 96 (fun _ => 0), xw_ei v 30 (fun _ => 0), xw_ei v 30 (fun _ => 0), xw_ei v 30 (fun _ => 0), xw_ei v 30 (fun _ => 0), xw_ei v 8 (fun _ => 0), xw_ez v 30 (fun _ => 0), xw_ei v 1400 (fun _ => 0), xw_ei v 700 (fun _ => 0), xw_eb v 68 (fun _ => 0)] := hn29
  have hF29 : ∀ q, q ≠ 21 → G29 q = G q := fun q a0 => (hf29 q a0).trans (hF28 q a0)
  have hw0 : G29 21 = [xw_eo 8 [.int 0, .ref (xw_ad v 21 1), .ref (xw_ad v 21 2), .ref (xw_ad v 21 3), .ref (xw_ad v 21 4), .ref (xw_ad v 21 5), .ref (xw_ad v 21 6), .int 0, .ref (xw_ad v 21 7), .ref (xw_ad v 21 8), .ref (xw_ad v 21 9), .ref (xw_ad v 21 10), .ref (xw_ad v 21 11), .ref (xw_ad v 21 12), .int 0, .int 0, .int 0, .int 0, .int 0, .int 0, .ref (xw_ad v 21 13), .int 0, .ref (xw_ad v 21 14), .int 0, .null, .int 0, .int 0, .int 0, .int 0, .int 0], xw_ei v 139 (fun _ => 0), xw_el v 8 (fun _ => 0), xw_ei v 139 (fun _ => 0), xw_ei v 139 (fun _ => 0), xw_ei v 1668 (fun _ => 0), xw_el v 96 (fun _ => 0), xw_ei v 30 (fun _ => 0), xw_ei v 30 (fun _ => 0), xw_ei v 30 (fun _ => 0), xw_ei v 30 (fun _ => 0), xw_ei v 8 (fun _ => 0), xw_ez v 30 (fun _ => 0), xw_ei v 1400 (fun _ => 0), xw_ei v 700 (fun _ => 0), xw_eb v 68 (wlv 0)] := by rw [wlv_0]; exact h21_29
  refine l_wd0 hk hw0 (fun G30 hn30 hf30 => ?_)
  have hF30 : ∀ q, q ≠ 21 → G30 q = G q := fun q a0 => (hf30 q a0).trans (hF29 q a0)
  refine l_wd17 hk hn30 (fun G31 hn31 hf31 => ?_)
  have hF31 : ∀ q, q ≠ 21 → G31 q = G q := fun q a0 => (hf31 q a0).trans (hF30 q a0)
  refine l_wd34 hk hn31 (fun G32 hn32 hf32 => ?_)
  have hF32 : ∀ q, q ≠ 21 → G32 q = G q := fun q a0 => (hf32 q a0).trans (hF31 q a0)
  refine l_wd51 hk hn32 (fun G33 hn33 hf33 => ?_)
  have hF33 : ∀ q, q ≠ 21 → G33 q = G q := fun q a0 => (hf33 q a0).trans (hF32 q a0)
  refine xj_putf2 (g := 21) (i := 0) hk dX8_init_516 fl_X8_58 rfl rfl fg_X8_58 rfl rfl hn33 rfl (Nat.le_of_ble_eq_true rfl) ?_
  intro G34 hn34 hf34
  have h21_34 : G34 21 = [xw_eo 8 [.int 0, .ref (xw_ad v 21 1), .ref (xw_ad v 21 2), .ref (xw_ad v 21 3), .ref (xw_ad v 21 4), .ref (xw_ad v 21 5), .ref (xw_ad v 21 6), .int 0, .ref (xw_ad v 21 7), .ref (xw_ad v 21 8), .ref (xw_ad v 21 9), .ref (xw_ad v 21 10), .ref (xw_ad v 21 11), .ref (xw_ad v 21 12), .int 0, .int 0, .int 0, .int 0, .int 0, .int 0, .ref (xw_ad v 21 13), .int 0, .ref (xw_ad v 21 14), .int 0, .ref (xw_ad v 21 15), .int 0, .int 0, .int 0, .int 0, .int 0], xw_ei v 139 (fun _ => 0), xw_el v 8 (fun _ => 0), xw_ei v 139 (fun _ => 0), xw_ei v 139 (fun _ => 0), xw_ei v 1668 (fun _ => 0), xw_el v 96 (fun _ => 0), xw_ei v 30 (fun _ => 0), xw_ei v 30 (fun _ => 0), xw_ei v 30 (fun _ => 0), xw_ei v 30 (fun _ => 0), xw_ei v 8 (fun _ => 0), xw_ez v 30 (fun _ => 0), xw_ei v 1400 (fun _ => 0), xw_ei v 700 (fun _ => 0), xw_eb v 68 (wlv 68)] := hn34
  have hF34 : ∀ q, q ≠ 21 → G34 q = G q := fun q a0 => (hf34 q a0).trans (hF33 q a0)
  have hm9 : G34 21 = pc_M v (0, fun _ => 0, fun _ => 0, fun _ => 0, fun _ => 0, fun _ => 0, fun _ => 0, 0, fun _ => 0, fun _ => 0, fun _ => 0, fun _ => 0, fun _ => 0, fun _ => 0, 0, 0, 0, 0, 0, 0, fun _ => 0, 0, fun _ => 0, 0, wlv 68, 0, 0, 0, 0, 0) := h21_34
  refine xj_aload_n (i := 0) hk dX8_init_519 rfl rfl ?_
  refine xj_getfield hk dX8_init_520 fl_X8_13 (xw_at hm9 rfl) rfl ?_
  refine xj_callSZ (fr1 := 0) (lo1 := 0) (As := [.ref (xw_ad v 21 1)]) (st := []) (mc := 0) (ms := 0) hk ml_X8_62 (c_begins_no hm9 _) (xk_fit hz (Nat.le_of_ble_eq_true rfl) (Nat.le_of_ble_eq_true rfl)) rfl dX8_init_523 ⟨Nat.le_of_ble_eq_true rfl, Nat.le_of_ble_eq_true rfl⟩ (Nat.le_of_ble_eq_true rfl) rfl ?_
  rintro _ _ ⟨rfl, rfl⟩
  refine xj_return hk hz dX8_init_526 ?_
  refine ⟨rfl, ?_, fun q h => (xw_up_n h).trans (hF34 q h)⟩
  exact xw_up_s.trans (by rw [show nQ TE0 (fun _ => 0) (cpN 8 nI (fun _ => 0)) (fun _ => 0) (fun _ => 0) (fun _ => 0) 0 (md_no (0, fun _ => 0, fun _ => 0, fun _ => 0, fun _ => 0, fun _ => 0, fun _ => 0, 0, fun _ => 0, fun _ => 0, fun _ => 0, fun _ => 0, fun _ => 0, fun _ => 0, 0, 0, 0, 0, 0, 0, fun _ => 0, 0, fun _ => 0, 0, wlv 68, 0, 0, 0, 0, 0)) = nR TE0 (fun _ => 0) (cpN 8 nI (fun _ => 0)) (fun _ => 0) (fun _ => 0) (fun _ => 0) 0 (fun _ => 0) (fun _ => 0) (fun _ => 0) 0 from nQ_0]; rfl)
