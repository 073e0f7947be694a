set_option maxHeartbeats 8000000 in
set_option maxRecDepth 100000 in
theorem LC_setClass_ok {p : Program} {l : Launch} {e : Env} {s : State} {m : MethodId} {below : List Frame} {meth : Method} {c : Code} {D : va_G} {cI cZ cJ : ClassId} {ad am : Nat → Nat} {ao b L kk jj : Nat} {xs : Nat → Int32} {S M : St} {fo : Nat → Int64} {i : Int32} {Q : State → Prop} (C : XC p room_1 s m #[Value.ref b] meth c cL_law 7 (some .boolean) RL wsL_law D (t3 cI cZ cJ)) (G : LG s b L xs) (hfl : l.stackTraces = false) (hk : kk + 1 ≤ 1094) (hj : jj + 6 ≤ 10825) {a1 : Int32} {a2 : Int32} {a3 : Int32} (g1 : vp_in (i + 1) L) (e1 : xs (i + 1).toNatClampNeg = a1) (g2 : vp_in (i + 2) L) (e2 : xs (i + 2).toNatClampNeg = a2) (g3 : vp_in (i + 3) L) (e3 : xs (i + 3).toNatClampNeg = a3) {S' : St} {M' : St} (h : X5_setClass S a1 a2 a3 = some (0, S')) (hM : X6_setClass M a1 a2 a3 = some M') (hth : M' 0 25 = 0) (K : ∀ (fo' : Nat → Int64) (k' j' : Nat), k' ≤ kk + 1 → j' ≤ jj + 6 → XW p l e room_1 s m #[Value.ref b] below meth c D [] 7 Q (wE cI cZ ad S' (eo ad (ad 0) (ad 7) (oc ao cJ fo' (wM cI cZ am M' [])))) k' j' 1689 [(0, .ref b), (1, .ref (ad 32)), (2, .ref (am 0)), (3, .ref ao), (4, .int i)] []) : XW p l e room_1 s m #[Value.ref b] below meth c D [] 7 Q (wE cI cZ ad S (eo ad (ad 0) (ad 7) (oc ao cJ fo (wM cI cZ am M [])))) kk jj 144 [(0, .ref b), (1, .ref (ad 32)), (2, .ref (am 0)), (3, .ref ao), (4, .int i)] [] := by
  refine x_aload_n C 1 dL_law_144 rfl ?_
  refine x_aload_n C 0 dL_law_145 rfl ?_
  refine x_iload C 4 dL_law_146 rfl ?_
  refine x_iconst C (v := 1) dL_law_148 (by decide) ?_
  refine x_iadd C dL_law_149 ?_
  refine x_sld C G g1 e1 dL_law_150 ?_
  refine x_aload_n C 0 dL_law_151 rfl ?_
  refine x_iload C 4 dL_law_152 rfl ?_
  refine x_iconst C (v := 2) dL_law_154 (by decide) ?_
  refine x_iadd C dL_law_155 ?_
  refine x_sld C G g2 e2 dL_law_156 ?_
  refine x_aload_n C 0 dL_law_157 rfl ?_
  refine x_iload C 4 dL_law_158 rfl ?_
  refine x_iconst C (v := 3) dL_law_160 (by decide) ?_
  refine x_iadd C dL_law_161 ?_
  refine x_sld C G g3 e3 dL_law_162 ?_
  refine x_ci (mc := 0) (ms := 0) (x_runSW C G.2.2.1 G.2.2.2 (As := [.ref (ad 32), .int a1, .int a2, .int a3]) (rest := []) (c_L_setClass_ok hfl h) (cwl_setClass C) rfl (Nat.le_of_ble_eq_true rfl) dL_law_163 ⟨by show kk + 0 ≤ 1094; omega, by show jj + 0 ≤ 10825; omega⟩) ?_
  refine x_istore C (lv' := [(0, .ref b), (1, .ref (ad 32)), (2, .ref (am 0)), (3, .ref ao), (4, .int i), (5, .int 0)]) dL_law_166 (by decide) rfl ?_
  refine x_aload_n C 2 dL_law_168 rfl ?_
  refine x_aload_n C 0 dL_law_169 rfl ?_
  refine x_iload C 4 dL_law_170 rfl ?_
  refine x_iconst C (v := 1) dL_law_172 (by decide) ?_
  refine x_iadd C dL_law_173 ?_
  refine x_sld C G g1 e1 dL_law_174 ?_
  refine x_aload_n C 0 dL_law_175 rfl ?_
  refine x_iload C 4 dL_law_176 rfl ?_
  refine x_iconst C (v := 2) dL_law_178 (by decide) ?_
  refine x_iadd C dL_law_179 ?_
  refine x_sld C G g2 e2 dL_law_180 ?_
  refine x_aload_n C 0 dL_law_181 rfl ?_
  refine x_iload C 4 dL_law_182 rfl ?_
  refine x_iconst C (v := 3) dL_law_184 (by decide) ?_
  refine x_iadd C dL_law_185 ?_
  refine x_sld C G g3 e3 dL_law_186 ?_
  refine x_world (w' := (wM cI cZ am M (wE cI cZ ad S' (eo ad (ad 0) (ad 7) (oc ao cJ fo []))))) (wl_EM (D := D)).1 ((wl_EM (D := D)).2 _) ?_
  refine x_cv0 (x_runV C (As := [.int a1, .int a2, .int a3]) (rest := []) (c_X6_setClass hM) (cwl6_setClass C) 0 rfl rfl rfl (Nat.le_of_ble_eq_true rfl) dL_law_187 ⟨by show kk + 0 + 0 ≤ 1094; omega, by show jj + 0 + 0 ≤ 10825; omega⟩) ?_
  refine x_aload_n C 2 dL_law_190 rfl ?_
  refine x_ci0 (x_runV C (As := []) (rest := []) (c_X6_thrown (S := M') (r := M' 0 25) rfl) (cwl6_thrown C) 0 rfl rfl rfl (Nat.le_of_ble_eq_true rfl) dL_law_191 ⟨by show kk + 0 + 0 ≤ 1094; omega, by show jj + 0 + 0 ≤ 10825; omega⟩) ?_
  refine x_iload C 5 dL_law_194 rfl ?_
  refine x_icmp_eq C (t := 201) dL_law_196 (by decide) (fun _ => ?_) (fun c1 => absurd hth c1)
  refine x_goto C (t := 1689) dL_law_201 (by decide) ?_
  refine x_world (w' := (wE cI cZ ad S' (eo ad (ad 0) (ad 7) (oc ao cJ fo (wM cI cZ am M' []))))) (wl_ME (D := D)).1 ((wl_ME (D := D)).2 _) ?_
  refine x_locals (lv' := [(0, .ref b), (1, .ref (ad 32)), (2, .ref (am 0)), (3, .ref ao), (4, .int i)]) [0, 1, 2, 3, 4] rfl ?_
  exact K _ _ _ (by omega) (by omega)
set_option maxHeartbeats 8000000 in
set_option maxRecDepth 100000 in
theorem LC_setClass_th0 {p : Program} {l : Launch} {e : Env} {s : State} {m : MethodId} {below : List Frame} {meth : Method} {c : Code} {D : va_G} {cI cZ cJ : ClassId} {ad am : Nat → Nat} {ao b L kk jj : Nat} {xs : Nat → Int32} {S M : St} {fo : Nat → Int64} {i : Int32} {Q : State → Prop} (C : XC p room_1 s m #[Value.ref b] meth c cL_law 7 (some .boolean) RL wsL_law D (t3 cI cZ cJ)) (G : LG s b L xs) (hfl : l.stackTraces = false) (hk : kk + 1 ≤ 1094) (hj : jj + 6 ≤ 10825) {a1 : Int32} {a2 : Int32} {a3 : Int32} (g1 : vp_in (i + 1) L) (e1 : xs (i + 1).toNatClampNeg = a1) (g2 : vp_in (i + 2) L) (e2 : xs (i + 2).toNatClampNeg = a2) (g3 : vp_in (i + 3) L) (e3 : xs (i + 3).toNatClampNeg = a3) {S' : St} {M' : St} (h : X5_setClass S a1 a2 a3 = some (1, S')) (hM : X6_setClass M a1 a2 a3 = some M') (hth : M' 0 25 = 1) (K : ∀ (fo' : Nat → Int64) (k' j' : Nat), k' ≤ kk + 1 → j' ≤ jj + 6 → XW p l e room_1 s m #[Value.ref b] below meth c D [] 7 Q (wE cI cZ ad S' (eo ad (ad 0) (ad 7) (oc ao cJ fo' (wM cI cZ am M' [])))) k' j' 1689 [(0, .ref b), (1, .ref (ad 32)), (2, .ref (am 0)), (3, .ref ao), (4, .int i)] []) : XW p l e room_1 s m #[Value.ref b] below meth c D [] 7 Q (wE cI cZ ad S (eo ad (ad 0) (ad 7) (oc ao cJ fo (wM cI cZ am M [])))) kk jj 144 [(0, .ref b), (1, .ref (ad 32)), (2, .ref (am 0)), (3, .ref ao), (4, .int i)] [] := by
  refine x_aload_n C 1 dL_law_144 rfl ?_
  refine x_aload_n C 0 dL_law_145 rfl ?_
  refine x_iload C 4 dL_law_146 rfl ?_
  refine x_iconst C (v := 1) dL_law_148 (by decide) ?_
  refine x_iadd C dL_law_149 ?_
  refine x_sld C G g1 e1 dL_law_150 ?_
  refine x_aload_n C 0 dL_law_151 rfl ?_
  refine x_iload C 4 dL_law_152 rfl ?_
  refine x_iconst C (v := 2) dL_law_154 (by decide) ?_
  refine x_iadd C dL_law_155 ?_
  refine x_sld C G g2 e2 dL_law_156 ?_
  refine x_aload_n C 0 dL_law_157 rfl ?_
  refine x_iload C 4 dL_law_158 rfl ?_
  refine x_iconst C (v := 3) dL_law_160 (by decide) ?_
  refine x_iadd C dL_law_161 ?_
  refine x_sld C G g3 e3 dL_law_162 ?_
  refine x_ci (mc := 1) (ms := 6) (x_runSW C G.2.2.1 G.2.2.2 (As := [.ref (ad 32), .int a1, .int a2, .int a3]) (rest := []) (c_L_setClass_th0 hfl h) (cwl_setClass_th C) rfl (Nat.le_of_ble_eq_true rfl) dL_law_163 ⟨by show kk + 1 ≤ 1094; omega, by show jj + 6 ≤ 10825; omega⟩) ?_
  refine x_istore C (lv' := [(0, .ref b), (1, .ref (ad 32)), (2, .ref (am 0)), (3, .ref ao), (4, .int i), (5, .int 1)]) dL_law_166 (by decide) rfl ?_
  refine x_aload_n C 2 dL_law_168 rfl ?_
  refine x_aload_n C 0 dL_law_169 rfl ?_
  refine x_iload C 4 dL_law_170 rfl ?_
  refine x_iconst C (v := 1) dL_law_172 (by decide) ?_
  refine x_iadd C dL_law_173 ?_
  refine x_sld C G g1 e1 dL_law_174 ?_
  refine x_aload_n C 0 dL_law_175 rfl ?_
  refine x_iload C 4 dL_law_176 rfl ?_
  refine x_iconst C (v := 2) dL_law_178 (by decide) ?_
  refine x_iadd C dL_law_179 ?_
  refine x_sld C G g2 e2 dL_law_180 ?_
  refine x_aload_n C 0 dL_law_181 rfl ?_
  refine x_iload C 4 dL_law_182 rfl ?_
  refine x_iconst C (v := 3) dL_law_184 (by decide) ?_
  refine x_iadd C dL_law_185 ?_
  refine x_sld C G g3 e3 dL_law_186 ?_
  refine x_world (w' := (wM cI cZ am M (wE cI cZ ad S' (eo ad (ad 0) (ad 7) (oc ao cJ fo []))))) (wl_EM (D := D)).1 ((wl_EM (D := D)).2 _) ?_
  refine x_cv0 (x_runV C (As := [.int a1, .int a2, .int a3]) (rest := []) (c_X6_setClass hM) (cwl6_setClass C) 0 rfl rfl rfl (Nat.le_of_ble_eq_true rfl) dL_law_187 ⟨by show kk + 1 + 0 ≤ 1094; omega, by show jj + 6 + 0 ≤ 10825; omega⟩) ?_
  refine x_aload_n C 2 dL_law_190 rfl ?_
  refine x_ci0 (x_runV C (As := []) (rest := []) (c_X6_thrown (S := M') (r := M' 0 25) rfl) (cwl6_thrown C) 0 rfl rfl rfl (Nat.le_of_ble_eq_true rfl) dL_law_191 ⟨by show kk + 1 + 0 ≤ 1094; omega, by show jj + 6 + 0 ≤ 10825; omega⟩) ?_
  refine x_iload C 5 dL_law_194 rfl ?_
  refine x_icmp_eq C (t := 201) dL_law_196 (by decide) (fun _ => ?_) (fun c1 => absurd hth c1)
  refine x_goto C (t := 1689) dL_law_201 (by decide) ?_
  refine x_world (w' := (wE cI cZ ad S' (eo ad (ad 0) (ad 7) (oc ao cJ fo (wM cI cZ am M' []))))) (wl_ME (D := D)).1 ((wl_ME (D := D)).2 _) ?_
  refine x_locals (lv' := [(0, .ref b), (1, .ref (ad 32)), (2, .ref (am 0)), (3, .ref ao), (4, .int i)]) [0, 1, 2, 3, 4] rfl ?_
  exact K _ _ _ (by omega) (by omega)
set_option maxHeartbeats 8000000 in
set_option maxRecDepth 100000 in
theorem LC_setClass_th1 {p : Program} {l : Launch} {e : Env} {s : State} {m : MethodId} {below : List Frame} {meth : Method} {c : Code} {D : va_G} {cI cZ cJ : ClassId} {ad am : Nat → Nat} {ao b L kk jj : Nat} {xs : Nat → Int32} {S M : St} {fo : Nat → Int64} {i : Int32} {Q : State → Prop} (C : XC p room_1 s m #[Value.ref b] meth c cL_law 7 (some .boolean) RL wsL_law D (t3 cI cZ cJ)) (G : LG s b L xs) (hfl : l.stackTraces = false) (hk : kk + 1 ≤ 1094) (hj : jj + 6 ≤ 10825) {a1 : Int32} {a2 : Int32} {a3 : Int32} (g1 : vp_in (i + 1) L) (e1 : xs (i + 1).toNatClampNeg = a1) (g2 : vp_in (i + 2) L) (e2 : xs (i + 2).toNatClampNeg = a2) (g3 : vp_in (i + 3) L) (e3 : xs (i + 3).toNatClampNeg = a3) {S' : St} {M' : St} (h : X5_setClass S a1 a2 a3 = some (2, S')) (hM : X6_setClass M a1 a2 a3 = some M') (hth : M' 0 25 = 2) (K : ∀ (fo' : Nat → Int64) (k' j' : Nat), k' ≤ kk + 1 → j' ≤ jj + 6 → XW p l e room_1 s m #[Value.ref b] below meth c D [] 7 Q (wE cI cZ ad S' (eo ad (ad 0) (ad 7) (oc ao cJ fo' (wM cI cZ am M' [])))) k' j' 1689 [(0, .ref b), (1, .ref (ad 32)), (2, .ref (am 0)), (3, .ref ao), (4, .int i)] []) : XW p l e room_1 s m #[Value.ref b] below meth c D [] 7 Q (wE cI cZ ad S (eo ad (ad 0) (ad 7) (oc ao cJ fo (wM cI cZ am M [])))) kk jj 144 [(0, .ref b), (1, .ref (ad 32)), (2, .ref (am 0)), (3, .ref ao), (4, .int i)] [] := by
  refine x_aload_n C 1 dL_law_144 rfl ?_
  refine x_aload_n C 0 dL_law_145 rfl ?_
  refine x_iload C 4 dL_law_146 rfl ?_
  refine x_iconst C (v := 1) dL_law_148 (by decide) ?_
  refine x_iadd C dL_law_149 ?_
  refine x_sld C G g1 e1 dL_law_150 ?_
  refine x_aload_n C 0 dL_law_151 rfl ?_
  refine x_iload C 4 dL_law_152 rfl ?_
  refine x_iconst C (v := 2) dL_law_154 (by decide) ?_
  refine x_iadd C dL_law_155 ?_
  refine x_sld C G g2 e2 dL_law_156 ?_
  refine x_aload_n C 0 dL_law_157 rfl ?_
  refine x_iload C 4 dL_law_158 rfl ?_
  refine x_iconst C (v := 3) dL_law_160 (by decide) ?_
  refine x_iadd C dL_law_161 ?_
  refine x_sld C G g3 e3 dL_law_162 ?_
  refine x_ci (mc := 1) (ms := 6) (x_runSW C G.2.2.1 G.2.2.2 (As := [.ref (ad 32), .int a1, .int a2, .int a3]) (rest := []) (c_L_setClass_th1 hfl h) (cwl_setClass_th C) rfl (Nat.le_of_ble_eq_true rfl) dL_law_163 ⟨by show kk + 1 ≤ 1094; omega, by show jj + 6 ≤ 10825; omega⟩) ?_
  refine x_istore C (lv' := [(0, .ref b), (1, .ref (ad 32)), (2, .ref (am 0)), (3, .ref ao), (4, .int i), (5, .int 2)]) dL_law_166 (by decide) rfl ?_
  refine x_aload_n C 2 dL_law_168 rfl ?_
  refine x_aload_n C 0 dL_law_169 rfl ?_
  refine x_iload C 4 dL_law_170 rfl ?_
  refine x_iconst C (v := 1) dL_law_172 (by decide) ?_
  refine x_iadd C dL_law_173 ?_
  refine x_sld C G g1 e1 dL_law_174 ?_
  refine x_aload_n C 0 dL_law_175 rfl ?_
  refine x_iload C 4 dL_law_176 rfl ?_
  refine x_iconst C (v := 2) dL_law_178 (by decide) ?_
  refine x_iadd C dL_law_179 ?_
  refine x_sld C G g2 e2 dL_law_180 ?_
  refine x_aload_n C 0 dL_law_181 rfl ?_
  refine x_iload C 4 dL_law_182 rfl ?_
  refine x_iconst C (v := 3) dL_law_184 (by decide) ?_
  refine x_iadd C dL_law_185 ?_
  refine x_sld C G g3 e3 dL_law_186 ?_
  refine x_world (w' := (wM cI cZ am M (wE cI cZ ad S' (eo ad (ad 0) (ad 7) (oc ao cJ fo []))))) (wl_EM (D := D)).1 ((wl_EM (D := D)).2 _) ?_
  refine x_cv0 (x_runV C (As := [.int a1, .int a2, .int a3]) (rest := []) (c_X6_setClass hM) (cwl6_setClass C) 0 rfl rfl rfl (Nat.le_of_ble_eq_true rfl) dL_law_187 ⟨by show kk + 1 + 0 ≤ 1094; omega, by show jj + 6 + 0 ≤ 10825; omega⟩) ?_
  refine x_aload_n C 2 dL_law_190 rfl ?_
  refine x_ci0 (x_runV C (As := []) (rest := []) (c_X6_thrown (S := M') (r := M' 0 25) rfl) (cwl6_thrown C) 0 rfl rfl rfl (Nat.le_of_ble_eq_true rfl) dL_law_191 ⟨by show kk + 1 + 0 ≤ 1094; omega, by show jj + 6 + 0 ≤ 10825; omega⟩) ?_
  refine x_iload C 5 dL_law_194 rfl ?_
  refine x_icmp_eq C (t := 201) dL_law_196 (by decide) (fun _ => ?_) (fun c1 => absurd hth c1)
  refine x_goto C (t := 1689) dL_law_201 (by decide) ?_
  refine x_world (w' := (wE cI cZ ad S' (eo ad (ad 0) (ad 7) (oc ao cJ fo (wM cI cZ am M' []))))) (wl_ME (D := D)).1 ((wl_ME (D := D)).2 _) ?_
  refine x_locals (lv' := [(0, .ref b), (1, .ref (ad 32)), (2, .ref (am 0)), (3, .ref ao), (4, .int i)]) [0, 1, 2, 3, 4] rfl ?_
  exact K _ _ _ (by omega) (by omega)
set_option maxHeartbeats 8000000 in
set_option maxRecDepth 100000 in
theorem LC_setClass_th2 {p : Program} {l : Launch} {e : Env} {s : State} {m : MethodId} {below : List Frame} {meth : Method} {c : Code} {D : va_G} {cI cZ cJ : ClassId} {ad am : Nat → Nat} {ao b L kk jj : Nat} {xs : Nat → Int32} {S M : St} {fo : Nat → Int64} {i : Int32} {Q : State → Prop} (C : XC p room_1 s m #[Value.ref b] meth c cL_law 7 (some .boolean) RL wsL_law D (t3 cI cZ cJ)) (G : LG s b L xs) (hfl : l.stackTraces = false) (hk : kk + 1 ≤ 1094) (hj : jj + 6 ≤ 10825) {a1 : Int32} {a2 : Int32} {a3 : Int32} (g1 : vp_in (i + 1) L) (e1 : xs (i + 1).toNatClampNeg = a1) (g2 : vp_in (i + 2) L) (e2 : xs (i + 2).toNatClampNeg = a2) (g3 : vp_in (i + 3) L) (e3 : xs (i + 3).toNatClampNeg = a3) {S' : St} {M' : St} (h : X5_setClass S a1 a2 a3 = some (3, S')) (hM : X6_setClass M a1 a2 a3 = some M') (hth : M' 0 25 = 3) (K : ∀ (fo' : Nat → Int64) (k' j' : Nat), k' ≤ kk + 1 → j' ≤ jj + 6 → XW p l e room_1 s m #[Value.ref b] below meth c D [] 7 Q (wE cI cZ ad S' (eo ad (ad 0) (ad 7) (oc ao cJ fo' (wM cI cZ am M' [])))) k' j' 1689 [(0, .ref b), (1, .ref (ad 32)), (2, .ref (am 0)), (3, .ref ao), (4, .int i)] []) : XW p l e room_1 s m #[Value.ref b] below meth c D [] 7 Q (wE cI cZ ad S (eo ad (ad 0) (ad 7) (oc ao cJ fo (wM cI cZ am M [])))) kk jj 144 [(0, .ref b), (1, .ref (ad 32)), (2, .ref (am 0)), (3, .ref ao), (4, .int i)] [] := by
  refine x_aload_n C 1 dL_law_144 rfl ?_
  refine x_aload_n C 0 dL_law_145 rfl ?_
  refine x_iload C 4 dL_law_146 rfl ?_
  refine x_iconst C (v := 1) dL_law_148 (by decide) ?_
  refine x_iadd C dL_law_149 ?_
  refine x_sld C G g1 e1 dL_law_150 ?_
  refine x_aload_n C 0 dL_law_151 rfl ?_
  refine x_iload C 4 dL_law_152 rfl ?_
  refine x_iconst C (v := 2) dL_law_154 (by decide) ?_
  refine x_iadd C dL_law_155 ?_
  refine x_sld C G g2 e2 dL_law_156 ?_
  refine x_aload_n C 0 dL_law_157 rfl ?_
  refine x_iload C 4 dL_law_158 rfl ?_
  refine x_iconst C (v := 3) dL_law_160 (by decide) ?_
  refine x_iadd C dL_law_161 ?_
  refine x_sld C G g3 e3 dL_law_162 ?_
  refine x_ci (mc := 1) (ms := 6) (x_runSW C G.2.2.1 G.2.2.2 (As := [.ref (ad 32), .int a1, .int a2, .int a3]) (rest := []) (c_L_setClass_th2 hfl h) (cwl_setClass_th C) rfl (Nat.le_of_ble_eq_true rfl) dL_law_163 ⟨by show kk + 1 ≤ 1094; omega, by show jj + 6 ≤ 10825; omega⟩) ?_
  refine x_istore C (lv' := [(0, .ref b), (1, .ref (ad 32)), (2, .ref (am 0)), (3, .ref ao), (4, .int i), (5, .int 3)]) dL_law_166 (by decide) rfl ?_
  refine x_aload_n C 2 dL_law_168 rfl ?_
  refine x_aload_n C 0 dL_law_169 rfl ?_
  refine x_iload C 4 dL_law_170 rfl ?_
  refine x_iconst C (v := 1) dL_law_172 (by decide) ?_
  refine x_iadd C dL_law_173 ?_
  refine x_sld C G g1 e1 dL_law_174 ?_
  refine x_aload_n C 0 dL_law_175 rfl ?_
  refine x_iload C 4 dL_law_176 rfl ?_
  refine x_iconst C (v := 2) dL_law_178 (by decide) ?_
  refine x_iadd C dL_law_179 ?_
  refine x_sld C G g2 e2 dL_law_180 ?_
  refine x_aload_n C 0 dL_law_181 rfl ?_
  refine x_iload C 4 dL_law_182 rfl ?_
  refine x_iconst C (v := 3) dL_law_184 (by decide) ?_
  refine x_iadd C dL_law_185 ?_
  refine x_sld C G g3 e3 dL_law_186 ?_
  refine x_world (w' := (wM cI cZ am M (wE cI cZ ad S' (eo ad (ad 0) (ad 7) (oc ao cJ fo []))))) (wl_EM (D := D)).1 ((wl_EM (D := D)).2 _) ?_
  refine x_cv0 (x_runV C (As := [.int a1, .int a2, .int a3]) (rest := []) (c_X6_setClass hM) (cwl6_setClass C) 0 rfl rfl rfl (Nat.le_of_ble_eq_true rfl) dL_law_187 ⟨by show kk + 1 + 0 ≤ 1094; omega, by show jj + 6 + 0 ≤ 10825; omega⟩) ?_
  refine x_aload_n C 2 dL_law_190 rfl ?_
  refine x_ci0 (x_runV C (As := []) (rest := []) (c_X6_thrown (S := M') (r := M' 0 25) rfl) (cwl6_thrown C) 0 rfl rfl rfl (Nat.le_of_ble_eq_true rfl) dL_law_191 ⟨by show kk + 1 + 0 ≤ 1094; omega, by show jj + 6 + 0 ≤ 10825; omega⟩) ?_
  refine x_iload C 5 dL_law_194 rfl ?_
  refine x_icmp_eq C (t := 201) dL_law_196 (by decide) (fun _ => ?_) (fun c1 => absurd hth c1)
  refine x_goto C (t := 1689) dL_law_201 (by decide) ?_
  refine x_world (w' := (wE cI cZ ad S' (eo ad (ad 0) (ad 7) (oc ao cJ fo (wM cI cZ am M' []))))) (wl_ME (D := D)).1 ((wl_ME (D := D)).2 _) ?_
  refine x_locals (lv' := [(0, .ref b), (1, .ref (ad 32)), (2, .ref (am 0)), (3, .ref ao), (4, .int i)]) [0, 1, 2, 3, 4] rfl ?_
  exact K _ _ _ (by omega) (by omega)
set_option maxHeartbeats 8000000 in
set_option maxRecDepth 100000 in
theorem LC_add_ok {p : Program} {l : Launch} {e : Env} {s : State} {m : MethodId} {below : List Frame} {meth : Method} {c : Code} {D : va_G} {cI cZ cJ : ClassId} {ad am : Nat → Nat} {ao b L kk jj : Nat} {xs : Nat → Int32} {S M : St} {fo : Nat → Int64} {i : Int32} {Q : State → Prop} (C : XC p room_1 s m #[Value.ref b] meth c cL_law 7 (some .boolean) RL wsL_law D (t3 cI cZ cJ)) (G : LG s b L xs) (hfl : l.stackTraces = false) (hk : kk + 1 ≤ 1094) (hj : jj + 6 ≤ 10825) {a1 : Int32} {a2 : Int32} {a3 : Int32} {a4 : Int32} (g1 : vp_in (i + 1) L) (e1 : xs (i + 1).toNatClampNeg = a1) (g2 : vp_in (i + 2) L) (e2 : xs (i + 2).toNatClampNeg = a2) (g3 : vp_in (i + 3) L) (e3 : xs (i + 3).toNatClampNeg = a3) (g4 : vp_in (i + 4) L) (e4 : xs (i + 4).toNatClampNeg = a4) {v : Int32} {S' : St} {M' : St} (h : X5_add S a1 a2 a3 a4 = some (0, v, S')) (hM : X6_add M a1 a2 a3 a4 = some (v, M')) (hth : M' 0 25 = 0) (K : ∀ (fo' : Nat → Int64) (k' j' : Nat), k' ≤ kk + 1 → j' ≤ jj + 6 → XW p l e room_1 s m #[Value.ref b] below meth c D [] 7 Q (wE cI cZ ad S' (eo ad (ad 0) (ad 7) (oc ao cJ fo' (wM cI cZ am M' [])))) k' j' 1689 [(0, .ref b), (1, .ref (ad 32)), (2, .ref (am 0)), (3, .ref ao), (4, .int i)] []) : XW p l e room_1 s m #[Value.ref b] below meth c D [] 7 Q (wE cI cZ ad S (eo ad (ad 0) (ad 7) (oc ao cJ fo (wM cI cZ am M [])))) kk jj 204 [(0, .ref b), (1, .ref (ad 32)), (2, .ref (am 0)), (3, .ref ao), (4, .int i)] [] := by
  refine x_aload_n C 1 dL_law_204 rfl ?_
  refine x_aload_n C 0 dL_law_205 rfl ?_
  refine x_iload C 4 dL_law_206 rfl ?_
  refine x_iconst C (v := 1) dL_law_208 (by decide) ?_
  refine x_iadd C dL_law_209 ?_
  refine x_sld C G g1 e1 dL_law_210 ?_
  refine x_aload_n C 0 dL_law_211 rfl ?_
  refine x_iload C 4 dL_law_212 rfl ?_
  refine x_iconst C (v := 2) dL_law_214 (by decide) ?_
  refine x_iadd C dL_law_215 ?_
  refine x_sld C G g2 e2 dL_law_216 ?_
  refine x_aload_n C 0 dL_law_217 rfl ?_
  refine x_iload C 4 dL_law_218 rfl ?_
  refine x_iconst C (v := 3) dL_law_220 (by decide) ?_
  refine x_iadd C dL_law_221 ?_
  refine x_sld C G g3 e3 dL_law_222 ?_
  refine x_aload_n C 0 dL_law_223 rfl ?_
  refine x_iload C 4 dL_law_224 rfl ?_
  refine x_iconst C (v := 4) dL_law_226 (by decide) ?_
  refine x_iadd C dL_law_227 ?_
  refine x_sld C G g4 e4 dL_law_228 ?_
  refine x_aload_n C 3 dL_law_229 rfl ?_
  refine x_ci (mc := 0) (ms := 0) (x_runSW C G.2.2.1 G.2.2.2 (As := [.ref (ad 32), .int a1, .int a2, .int a3, .int a4, .ref ao]) (rest := []) (c_L_add_ok hfl h) (cwl_add C) rfl (Nat.le_of_ble_eq_true rfl) dL_law_230 ⟨by show kk + 0 ≤ 1094; omega, by show jj + 0 ≤ 10825; omega⟩) ?_
  refine x_istore C (lv' := [(0, .ref b), (1, .ref (ad 32)), (2, .ref (am 0)), (3, .ref ao), (4, .int i), (5, .int 0)]) dL_law_233 (by decide) rfl ?_
  refine x_aload_n C 2 dL_law_235 rfl ?_
  refine x_aload_n C 0 dL_law_236 rfl ?_
  refine x_iload C 4 dL_law_237 rfl ?_
  refine x_iconst C (v := 1) dL_law_239 (by decide) ?_
  refine x_iadd C dL_law_240 ?_
  refine x_sld C G g1 e1 dL_law_241 ?_
  refine x_aload_n C 0 dL_law_242 rfl ?_
  refine x_iload C 4 dL_law_243 rfl ?_
  refine x_iconst C (v := 2) dL_law_245 (by decide) ?_
  refine x_iadd C dL_law_246 ?_
  refine x_sld C G g2 e2 dL_law_247 ?_
  refine x_aload_n C 0 dL_law_248 rfl ?_
  refine x_iload C 4 dL_law_249 rfl ?_
  refine x_iconst C (v := 3) dL_law_251 (by decide) ?_
  refine x_iadd C dL_law_252 ?_
  refine x_sld C G g3 e3 dL_law_253 ?_
  refine x_aload_n C 0 dL_law_254 rfl ?_
  refine x_iload C 4 dL_law_255 rfl ?_
  refine x_iconst C (v := 4) dL_law_257 (by decide) ?_
  refine x_iadd C dL_law_258 ?_
  refine x_sld C G g4 e4 dL_law_259 ?_
  refine x_world (w' := (wM cI cZ am M (wE cI cZ ad S' (eo ad (ad 0) (ad 7) (oc ao cJ (vp_updL fo 0 v.toInt64) []))))) (wl_EM (D := D)).1 ((wl_EM (D := D)).2 _) ?_
  refine x_ci0 (x_runV C (As := [.int a1, .int a2, .int a3, .int a4]) (rest := []) (c_X6_add hM) (cwl6_add C) 0 rfl rfl rfl (Nat.le_of_ble_eq_true rfl) dL_law_260 ⟨by show kk + 0 + 0 ≤ 1094; omega, by show jj + 0 + 0 ≤ 10825; omega⟩) ?_
  refine x_istore C (lv' := [(0, .ref b), (1, .ref (ad 32)), (2, .ref (am 0)), (3, .ref ao), (4, .int i), (5, .int 0), (6, .int v)]) dL_law_263 (by decide) rfl ?_
  refine x_aload_n C 2 dL_law_265 rfl ?_
  refine x_ci0 (x_runV C (As := []) (rest := []) (c_X6_thrown (S := M') (r := M' 0 25) rfl) (cwl6_thrown C) 0 rfl rfl rfl (Nat.le_of_ble_eq_true rfl) dL_law_266 ⟨by show kk + 0 + 0 ≤ 1094; omega, by show jj + 0 + 0 ≤ 10825; omega⟩) ?_
  refine x_iload C 5 dL_law_269 rfl ?_
  refine x_icmp_eq C (t := 276) dL_law_271 (by decide) (fun _ => ?_) (fun c1 => absurd hth c1)
  refine x_iload C 5 dL_law_276 rfl ?_
  refine x_if_ne C (t := 293) dL_law_278 (by decide) (fun c1 => absurd rfl c1) (fun _ => ?_)
  refine x_aload_n C 3 dL_law_281 rfl ?_
  refine x_iconst C (v := 0) dL_law_282 (by decide) ?_
  refine x_lald C 57 rfl (show ¬ ((0:Int32) < 0 ∨ 1 ≤ (0:Int32).toNatClampNeg) by decide) dL_law_283 ?_
  refine x_iload C 6 dL_law_284 rfl ?_
  refine x_i2l C dL_law_286 ?_
  refine x_lcmp C dL_law_287 ?_
  refine x_if_eq C (t := 293) dL_law_288 (by decide) (fun _ => ?_) (fun c1 => absurd (lg_self _ _) c1)
  refine x_goto C (t := 1689) dL_law_293 (by decide) ?_
  refine x_world (w' := (wE cI cZ ad S' (eo ad (ad 0) (ad 7) (oc ao cJ (vp_updL fo 0 v.toInt64) (wM cI cZ am M' []))))) (wl_ME (D := D)).1 ((wl_ME (D := D)).2 _) ?_
  refine x_locals (lv' := [(0, .ref b), (1, .ref (ad 32)), (2, .ref (am 0)), (3, .ref ao), (4, .int i)]) [0, 1, 2, 3, 4] rfl ?_
  exact K _ _ _ (by omega) (by omega)
set_option maxHeartbeats 8000000 in
set_option maxRecDepth 100000 in
theorem LC_add_th0 {p : Program} {l : Launch} {e : Env} {s : State} {m : MethodId} {below : List Frame} {meth : Method} {c : Code} {D : va_G} {cI cZ cJ : ClassId} {ad am : Nat → Nat} {ao b L kk jj : Nat} {xs : Nat → Int32} {S M : St} {fo : Nat → Int64} {i : Int32} {Q : State → Prop} (C : XC p room_1 s m #[Value.ref b] meth c cL_law 7 (some .boolean) RL wsL_law D (t3 cI cZ cJ)) (G : LG s b L xs) (hfl : l.stackTraces = false) (hk : kk + 1 ≤ 1094) (hj : jj + 6 ≤ 10825) {a1 : Int32} {a2 : Int32} {a3 : Int32} {a4 : Int32} (g1 : vp_in (i + 1) L) (e1 : xs (i + 1).toNatClampNeg = a1) (g2 : vp_in (i + 2) L) (e2 : xs (i + 2).toNatClampNeg = a2) (g3 : vp_in (i + 3) L) (e3 : xs (i + 3).toNatClampNeg = a3) (g4 : vp_in (i + 4) L) (e4 : xs (i + 4).toNatClampNeg = a4) {v : Int32} {vb : Int32} {S' : St} {M' : St} (h : X5_add S a1 a2 a3 a4 = some (1, v, S')) (hM : X6_add M a1 a2 a3 a4 = some (vb, M')) (hth : M' 0 25 = 1) (K : ∀ (fo' : Nat → Int64) (k' j' : Nat), k' ≤ kk + 1 → j' ≤ jj + 6 → XW p l e room_1 s m #[Value.ref b] below meth c D [] 7 Q (wE cI cZ ad S' (eo ad (ad 0) (ad 7) (oc ao cJ fo' (wM cI cZ am M' [])))) k' j' 1689 [(0, .ref b), (1, .ref (ad 32)), (2, .ref (am 0)), (3, .ref ao), (4, .int i)] []) : XW p l e room_1 s m #[Value.ref b] below meth c D [] 7 Q (wE cI cZ ad S (eo ad (ad 0) (ad 7) (oc ao cJ fo (wM cI cZ am M [])))) kk jj 204 [(0, .ref b), (1, .ref (ad 32)), (2, .ref (am 0)), (3, .ref ao), (4, .int i)] [] := by
  refine x_aload_n C 1 dL_law_204 rfl ?_
  refine x_aload_n C 0 dL_law_205 rfl ?_
  refine x_iload C 4 dL_law_206 rfl ?_
  refine x_iconst C (v := 1) dL_law_208 (by decide) ?_
  refine x_iadd C dL_law_209 ?_
  refine x_sld C G g1 e1 dL_law_210 ?_
  refine x_aload_n C 0 dL_law_211 rfl ?_
  refine x_iload C 4 dL_law_212 rfl ?_
  refine x_iconst C (v := 2) dL_law_214 (by decide) ?_
  refine x_iadd C dL_law_215 ?_
  refine x_sld C G g2 e2 dL_law_216 ?_
  refine x_aload_n C 0 dL_law_217 rfl ?_
  refine x_iload C 4 dL_law_218 rfl ?_
  refine x_iconst C (v := 3) dL_law_220 (by decide) ?_
  refine x_iadd C dL_law_221 ?_
  refine x_sld C G g3 e3 dL_law_222 ?_
  refine x_aload_n C 0 dL_law_223 rfl ?_
  refine x_iload C 4 dL_law_224 rfl ?_
  refine x_iconst C (v := 4) dL_law_226 (by decide) ?_
  refine x_iadd C dL_law_227 ?_
  refine x_sld C G g4 e4 dL_law_228 ?_
  refine x_aload_n C 3 dL_law_229 rfl ?_
  refine x_ci (mc := 1) (ms := 6) (x_runSW C G.2.2.1 G.2.2.2 (As := [.ref (ad 32), .int a1, .int a2, .int a3, .int a4, .ref ao]) (rest := []) (c_L_add_th0 hfl h) (cwl_add_th C) rfl (Nat.le_of_ble_eq_true rfl) dL_law_230 ⟨by show kk + 1 ≤ 1094; omega, by show jj + 6 ≤ 10825; omega⟩) ?_
  refine x_istore C (lv' := [(0, .ref b), (1, .ref (ad 32)), (2, .ref (am 0)), (3, .ref ao), (4, .int i), (5, .int 1)]) dL_law_233 (by decide) rfl ?_
  refine x_aload_n C 2 dL_law_235 rfl ?_
  refine x_aload_n C 0 dL_law_236 rfl ?_
  refine x_iload C 4 dL_law_237 rfl ?_
  refine x_iconst C (v := 1) dL_law_239 (by decide) ?_
  refine x_iadd C dL_law_240 ?_
  refine x_sld C G g1 e1 dL_law_241 ?_
  refine x_aload_n C 0 dL_law_242 rfl ?_
  refine x_iload C 4 dL_law_243 rfl ?_
  refine x_iconst C (v := 2) dL_law_245 (by decide) ?_
  refine x_iadd C dL_law_246 ?_
  refine x_sld C G g2 e2 dL_law_247 ?_
  refine x_aload_n C 0 dL_law_248 rfl ?_
  refine x_iload C 4 dL_law_249 rfl ?_
  refine x_iconst C (v := 3) dL_law_251 (by decide) ?_
  refine x_iadd C dL_law_252 ?_
  refine x_sld C G g3 e3 dL_law_253 ?_
  refine x_aload_n C 0 dL_law_254 rfl ?_
  refine x_iload C 4 dL_law_255 rfl ?_
  refine x_iconst C (v := 4) dL_law_257 (by decide) ?_
  refine x_iadd C dL_law_258 ?_
  refine x_sld C G g4 e4 dL_law_259 ?_
  refine x_world (w' := (wM cI cZ am M (wE cI cZ ad S' (eo ad (ad 0) (ad 7) (oc ao cJ fo []))))) (wl_EM (D := D)).1 ((wl_EM (D := D)).2 _) ?_
  refine x_ci0 (x_runV C (As := [.int a1, .int a2, .int a3, .int a4]) (rest := []) (c_X6_add hM) (cwl6_add C) 0 rfl rfl rfl (Nat.le_of_ble_eq_true rfl) dL_law_260 ⟨by show kk + 1 + 0 ≤ 1094; omega, by show jj + 6 + 0 ≤ 10825; omega⟩) ?_
  refine x_istore C (lv' := [(0, .ref b), (1, .ref (ad 32)), (2, .ref (am 0)), (3, .ref ao), (4, .int i), (5, .int 1), (6, .int vb)]) dL_law_263 (by decide) rfl ?_
  refine x_aload_n C 2 dL_law_265 rfl ?_
  refine x_ci0 (x_runV C (As := []) (rest := []) (c_X6_thrown (S := M') (r := M' 0 25) rfl) (cwl6_thrown C) 0 rfl rfl rfl (Nat.le_of_ble_eq_true rfl) dL_law_266 ⟨by show kk + 1 + 0 ≤ 1094; omega, by show jj + 6 + 0 ≤ 10825; omega⟩) ?_
  refine x_iload C 5 dL_law_269 rfl ?_
  refine x_icmp_eq C (t := 276) dL_law_271 (by decide) (fun _ => ?_) (fun c1 => absurd hth c1)
  refine x_iload C 5 dL_law_276 rfl ?_
  refine x_if_ne C (t := 293) dL_law_278 (by decide) (fun _ => ?_) (fun c1 => absurd c1 (by decide))
  refine x_goto C (t := 1689) dL_law_293 (by decide) ?_
  refine x_world (w' := (wE cI cZ ad S' (eo ad (ad 0) (ad 7) (oc ao cJ fo (wM cI cZ am M' []))))) (wl_ME (D := D)).1 ((wl_ME (D := D)).2 _) ?_
  refine x_locals (lv' := [(0, .ref b), (1, .ref (ad 32)), (2, .ref (am 0)), (3, .ref ao), (4, .int i)]) [0, 1, 2, 3, 4] rfl ?_
  exact K _ _ _ (by omega) (by omega)
set_option maxHeartbeats 8000000 in
set_option maxRecDepth 100000 in
theorem LC_add_th1 {p : Program} {l : Launch} {e : Env} {s : State} {m : MethodId} {below : List Frame} {meth : Method} {c : Code} {D : va_G} {cI cZ cJ : ClassId} {ad am : Nat → Nat} {ao b L kk jj : Nat} {xs : Nat → Int32} {S M : St} {fo : Nat → Int64} {i : Int32} {Q : State → Prop} (C : XC p room_1 s m #[Value.ref b] meth c cL_law 7 (some .boolean) RL wsL_law D (t3 cI cZ cJ)) (G : LG s b L xs) (hfl : l.stackTraces = false) (hk : kk + 1 ≤ 1094) (hj : jj + 6 ≤ 10825) {a1 : Int32} {a2 : Int32} {a3 : Int32} {a4 : Int32} (g1 : vp_in (i + 1) L) (e1 : xs (i + 1).toNatClampNeg = a1) (g2 : vp_in (i + 2) L) (e2 : xs (i + 2).toNatClampNeg = a2) (g3 : vp_in (i + 3) L) (e3 : xs (i + 3).toNatClampNeg = a3) (g4 : vp_in (i + 4) L) (e4 : xs (i + 4).toNatClampNeg = a4) {v : Int32} {vb : Int32} {S' : St} {M' : St} (h : X5_add S a1 a2 a3 a4 = some (2, v, S')) (hM : X6_add M a1 a2 a3 a4 = some (vb, M')) (hth : M' 0 25 = 2) (K : ∀ (fo' : Nat → Int64) (k' j' : Nat), k' ≤ kk + 1 → j' ≤ jj + 6 → XW p l e room_1 s m #[Value.ref b] below meth c D [] 7 Q (wE cI cZ ad S' (eo ad (ad 0) (ad 7) (oc ao cJ fo' (wM cI cZ am M' [])))) k' j' 1689 [(0, .ref b), (1, .ref (ad 32)), (2, .ref (am 0)), (3, .ref ao), (4, .int i)] []) : XW p l e room_1 s m #[Value.ref b] below meth c D [] 7 Q (wE cI cZ ad S (eo ad (ad 0) (ad 7) (oc ao cJ fo (wM cI cZ am M [])))) kk jj 204 [(0, .ref b), (1, .ref (ad 32)), (2, .ref (am 0)), (3, .ref ao), (4, .int i)] [] := by
  refine x_aload_n C 1 dL_law_204 rfl ?_
  refine x_aload_n C 0 dL_law_205 rfl ?_
  refine x_iload C 4 dL_law_206 rfl ?_
  refine x_iconst C (v := 1) dL_law_208 (by decide) ?_
  refine x_iadd C dL_law_209 ?_
  refine x_sld C G g1 e1 dL_law_210 ?_
  refine x_aload_n C 0 dL_law_211 rfl ?_
  refine x_iload C 4 dL_law_212 rfl ?_
  refine x_iconst C (v := 2) dL_law_214 (by decide) ?_
  refine x_iadd C dL_law_215 ?_
  refine x_sld C G g2 e2 dL_law_216 ?_
  refine x_aload_n C 0 dL_law_217 rfl ?_
  refine x_iload C 4 dL_law_218 rfl ?_
  refine x_iconst C (v := 3) dL_law_220 (by decide) ?_
  refine x_iadd C dL_law_221 ?_
  refine x_sld C G g3 e3 dL_law_222 ?_
  refine x_aload_n C 0 dL_law_223 rfl ?_
  refine x_iload C 4 dL_law_224 rfl ?_
  refine x_iconst C (v := 4) dL_law_226 (by decide) ?_
  refine x_iadd C dL_law_227 ?_
  refine x_sld C G g4 e4 dL_law_228 ?_
  refine x_aload_n C 3 dL_law_229 rfl ?_
  refine x_ci (mc := 1) (ms := 6) (x_runSW C G.2.2.1 G.2.2.2 (As := [.ref (ad 32), .int a1, .int a2, .int a3, .int a4, .ref ao]) (rest := []) (c_L_add_th1 hfl h) (cwl_add_th C) rfl (Nat.le_of_ble_eq_true rfl) dL_law_230 ⟨by show kk + 1 ≤ 1094; omega, by show jj + 6 ≤ 10825; omega⟩) ?_
  refine x_istore C (lv' := [(0, .ref b), (1, .ref (ad 32)), (2, .ref (am 0)), (3, .ref ao), (4, .int i), (5, .int 2)]) dL_law_233 (by decide) rfl ?_
  refine x_aload_n C 2 dL_law_235 rfl ?_
  refine x_aload_n C 0 dL_law_236 rfl ?_
  refine x_iload C 4 dL_law_237 rfl ?_
  refine x_iconst C (v := 1) dL_law_239 (by decide) ?_
  refine x_iadd C dL_law_240 ?_
  refine x_sld C G g1 e1 dL_law_241 ?_
  refine x_aload_n C 0 dL_law_242 rfl ?_
  refine x_iload C 4 dL_law_243 rfl ?_
  refine x_iconst C (v := 2) dL_law_245 (by decide) ?_
  refine x_iadd C dL_law_246 ?_
  refine x_sld C G g2 e2 dL_law_247 ?_
  refine x_aload_n C 0 dL_law_248 rfl ?_
  refine x_iload C 4 dL_law_249 rfl ?_
  refine x_iconst C (v := 3) dL_law_251 (by decide) ?_
  refine x_iadd C dL_law_252 ?_
  refine x_sld C G g3 e3 dL_law_253 ?_
  refine x_aload_n C 0 dL_law_254 rfl ?_
  refine x_iload C 4 dL_law_255 rfl ?_
  refine x_iconst C (v := 4) dL_law_257 (by decide) ?_
  refine x_iadd C dL_law_258 ?_
  refine x_sld C G g4 e4 dL_law_259 ?_
  refine x_world (w' := (wM cI cZ am M (wE cI cZ ad S' (eo ad (ad 0) (ad 7) (oc ao cJ fo []))))) (wl_EM (D := D)).1 ((wl_EM (D := D)).2 _) ?_
  refine x_ci0 (x_runV C (As := [.int a1, .int a2, .int a3, .int a4]) (rest := []) (c_X6_add hM) (cwl6_add C) 0 rfl rfl rfl (Nat.le_of_ble_eq_true rfl) dL_law_260 ⟨by show kk + 1 + 0 ≤ 1094; omega, by show jj + 6 + 0 ≤ 10825; omega⟩) ?_
  refine x_istore C (lv' := [(0, .ref b), (1, .ref (ad 32)), (2, .ref (am 0)), (3, .ref ao), (4, .int i), (5, .int 2), (6, .int vb)]) dL_law_263 (by decide) rfl ?_
  refine x_aload_n C 2 dL_law_265 rfl ?_
  refine x_ci0 (x_runV C (As := []) (rest := []) (c_X6_thrown (S := M') (r := M' 0 25) rfl) (cwl6_thrown C) 0 rfl rfl rfl (Nat.le_of_ble_eq_true rfl) dL_law_266 ⟨by show kk + 1 + 0 ≤ 1094; omega, by show jj + 6 + 0 ≤ 10825; omega⟩) ?_
  refine x_iload C 5 dL_law_269 rfl ?_
  refine x_icmp_eq C (t := 276) dL_law_271 (by decide) (fun _ => ?_) (fun c1 => absurd hth c1)
  refine x_iload C 5 dL_law_276 rfl ?_
  refine x_if_ne C (t := 293) dL_law_278 (by decide) (fun _ => ?_) (fun c1 => absurd c1 (by decide))
  refine x_goto C (t := 1689) dL_law_293 (by decide) ?_
  refine x_world (w' := (wE cI cZ ad S' (eo ad (ad 0) (ad 7) (oc ao cJ fo (wM cI cZ am M' []))))) (wl_ME (D := D)).1 ((wl_ME (D := D)).2 _) ?_
  refine x_locals (lv' := [(0, .ref b), (1, .ref (ad 32)), (2, .ref (am 0)), (3, .ref ao), (4, .int i)]) [0, 1, 2, 3, 4] rfl ?_
  exact K _ _ _ (by omega) (by omega)
set_option maxHeartbeats 8000000 in
set_option maxRecDepth 100000 in
theorem LC_add_th2 {p : Program} {l : Launch} {e : Env} {s : State} {m : MethodId} {below : List Frame} {meth : Method} {c : Code} {D : va_G} {cI cZ cJ : ClassId} {ad am : Nat → Nat} {ao b L kk jj : Nat} {xs : Nat → Int32} {S M : St} {fo : Nat → Int64} {i : Int32} {Q : State → Prop} (C : XC p room_1 s m #[Value.ref b] meth c cL_law 7 (some .boolean) RL wsL_law D (t3 cI cZ cJ)) (G : LG s b L xs) (hfl : l.stackTraces = false) (hk : kk + 1 ≤ 1094) (hj : jj + 6 ≤ 10825) {a1 : Int32} {a2 : Int32} {a3 : Int32} {a4 : Int32} (g1 : vp_in (i + 1) L) (e1 : xs (i + 1).toNatClampNeg = a1) (g2 : vp_in (i + 2) L) (e2 : xs (i + 2).toNatClampNeg = a2) (g3 : vp_in (i + 3) L) (e3 : xs (i + 3).toNatClampNeg = a3) (g4 : vp_in (i + 4) L) (e4 : xs (i + 4).toNatClampNeg = a4) {v : Int32} {vb : Int32} {S' : St} {M' : St} (h : X5_add S a1 a2 a3 a4 = some (3, v, S')) (hM : X6_add M a1 a2 a3 a4 = some (vb, M')) (hth : M' 0 25 = 3) (K : ∀ (fo' : Nat → Int64) (k' j' : Nat), k' ≤ kk + 1 → j' ≤ jj + 6 → XW p l e room_1 s m #[Value.ref b] below meth c D [] 7 Q (wE cI cZ ad S' (eo ad (ad 0) (ad 7) (oc ao cJ fo' (wM cI cZ am M' [])))) k' j' 1689 [(0, .ref b), (1, .ref (ad 32)), (2, .ref (am 0)), (3, .ref ao), (4, .int i)] []) : XW p l e room_1 s m #[Value.ref b] below meth c D [] 7 Q (wE cI cZ ad S (eo ad (ad 0) (ad 7) (oc ao cJ fo (wM cI cZ am M [])))) kk jj 204 [(0, .ref b), (1, .ref (ad 32)), (2, .ref (am 0)), (3, .ref ao), (4, .int i)] [] := by
  refine x_aload_n C 1 dL_law_204 rfl ?_
  refine x_aload_n C 0 dL_law_205 rfl ?_
  refine x_iload C 4 dL_law_206 rfl ?_
  refine x_iconst C (v := 1) dL_law_208 (by decide) ?_
  refine x_iadd C dL_law_209 ?_
  refine x_sld C G g1 e1 dL_law_210 ?_
  refine x_aload_n C 0 dL_law_211 rfl ?_
  refine x_iload C 4 dL_law_212 rfl ?_
  refine x_iconst C (v := 2) dL_law_214 (by decide) ?_
  refine x_iadd C dL_law_215 ?_
  refine x_sld C G g2 e2 dL_law_216 ?_
  refine x_aload_n C 0 dL_law_217 rfl ?_
  refine x_iload C 4 dL_law_218 rfl ?_
  refine x_iconst C (v := 3) dL_law_220 (by decide) ?_
  refine x_iadd C dL_law_221 ?_
  refine x_sld C G g3 e3 dL_law_222 ?_
  refine x_aload_n C 0 dL_law_223 rfl ?_
  refine x_iload C 4 dL_law_224 rfl ?_
  refine x_iconst C (v := 4) dL_law_226 (by decide) ?_
  refine x_iadd C dL_law_227 ?_
  refine x_sld C G g4 e4 dL_law_228 ?_
  refine x_aload_n C 3 dL_law_229 rfl ?_
  refine x_ci (mc := 1) (ms := 6) (x_runSW C G.2.2.1 G.2.2.2 (As := [.ref (ad 32), .int a1, .int a2, .int a3, .int a4, .ref ao]) (rest := []) (c_L_add_th2 hfl h) (cwl_add_th C) rfl (Nat.le_of_ble_eq_true rfl) dL_law_230 ⟨by show kk + 1 ≤ 1094; omega, by show jj + 6 ≤ 10825; omega⟩) ?_
  refine x_istore C (lv' := [(0, .ref b), (1, .ref (ad 32)), (2, .ref (am 0)), (3, .ref ao), (4, .int i), (5, .int 3)]) dL_law_233 (by decide) rfl ?_
  refine x_aload_n C 2 dL_law_235 rfl ?_
  refine x_aload_n C 0 dL_law_236 rfl ?_
  refine x_iload C 4 dL_law_237 rfl ?_
  refine x_iconst C (v := 1) dL_law_239 (by decide) ?_
  refine x_iadd C dL_law_240 ?_
  refine x_sld C G g1 e1 dL_law_241 ?_
  refine x_aload_n C 0 dL_law_242 rfl ?_
  refine x_iload C 4 dL_law_243 rfl ?_
  refine x_iconst C (v := 2) dL_law_245 (by decide) ?_
  refine x_iadd C dL_law_246 ?_
  refine x_sld C G g2 e2 dL_law_247 ?_
  refine x_aload_n C 0 dL_law_248 rfl ?_
  refine x_iload C 4 dL_law_249 rfl ?_
  refine x_iconst C (v := 3) dL_law_251 (by decide) ?_
  refine x_iadd C dL_law_252 ?_
  refine x_sld C G g3 e3 dL_law_253 ?_
  refine x_aload_n C 0 dL_law_254 rfl ?_
  refine x_iload C 4 dL_law_255 rfl ?_
  refine x_iconst C (v := 4) dL_law_257 (by decide) ?_
  refine x_iadd C dL_law_258 ?_
  refine x_sld C G g4 e4 dL_law_259 ?_
  refine x_world (w' := (wM cI cZ am M (wE cI cZ ad S' (eo ad (ad 0) (ad 7) (oc ao cJ fo []))))) (wl_EM (D := D)).1 ((wl_EM (D := D)).2 _) ?_
  refine x_ci0 (x_runV C (As := [.int a1, .int a2, .int a3, .int a4]) (rest := []) (c_X6_add hM) (cwl6_add C) 0 rfl rfl rfl (Nat.le_of_ble_eq_true rfl) dL_law_260 ⟨by show kk + 1 + 0 ≤ 1094; omega, by show jj + 6 + 0 ≤ 10825; omega⟩) ?_
  refine x_istore C (lv' := [(0, .ref b), (1, .ref (ad 32)), (2, .ref (am 0)), (3, .ref ao), (4, .int i), (5, .int 3), (6, .int vb)]) dL_law_263 (by decide) rfl ?_
  refine x_aload_n C 2 dL_law_265 rfl ?_
  refine x_ci0 (x_runV C (As := []) (rest := []) (c_X6_thrown (S := M') (r := M' 0 25) rfl) (cwl6_thrown C) 0 rfl rfl rfl (Nat.le_of_ble_eq_true rfl) dL_law_266 ⟨by show kk + 1 + 0 ≤ 1094; omega, by show jj + 6 + 0 ≤ 10825; omega⟩) ?_
  refine x_iload C 5 dL_law_269 rfl ?_
  refine x_icmp_eq C (t := 276) dL_law_271 (by decide) (fun _ => ?_) (fun c1 => absurd hth c1)
  refine x_iload C 5 dL_law_276 rfl ?_
  refine x_if_ne C (t := 293) dL_law_278 (by decide) (fun _ => ?_) (fun c1 => absurd c1 (by decide))
  refine x_goto C (t := 1689) dL_law_293 (by decide) ?_
  refine x_world (w' := (wE cI cZ ad S' (eo ad (ad 0) (ad 7) (oc ao cJ fo (wM cI cZ am M' []))))) (wl_ME (D := D)).1 ((wl_ME (D := D)).2 _) ?_
  refine x_locals (lv' := [(0, .ref b), (1, .ref (ad 32)), (2, .ref (am 0)), (3, .ref ao), (4, .int i)]) [0, 1, 2, 3, 4] rfl ?_
  exact K _ _ _ (by omega) (by omega)
set_option maxHeartbeats 8000000 in
set_option maxRecDepth 100000 in
theorem LC_set_ok {p : Program} {l : Launch} {e : Env} {s : State} {m : MethodId} {below : List Frame} {meth : Method} {c : Code} {D : va_G} {cI cZ cJ : ClassId} {ad am : Nat → Nat} {ao b L kk jj : Nat} {xs : Nat → Int32} {S M : St} {fo : Nat → Int64} {i : Int32} {Q : State → Prop} (C : XC p room_1 s m #[Value.ref b] meth c cL_law 7 (some .boolean) RL wsL_law D (t3 cI cZ cJ)) (G : LG s b L xs) (hfl : l.stackTraces = false) (hk : kk + 1 ≤ 1094) (hj : jj + 6 ≤ 10825) {a1 : Int32} {a2 : Int32} {a3 : Int32} {a4 : Int32} (g1 : vp_in (i + 1) L) (e1 : xs (i + 1).toNatClampNeg = a1) (g2 : vp_in (i + 2) L) (e2 : xs (i + 2).toNatClampNeg = a2) (g3 : vp_in (i + 3) L) (e3 : xs (i + 3).toNatClampNeg = a3) (g4 : vp_in (i + 4) L) (e4 : xs (i + 4).toNatClampNeg = a4) {v : Int32} {S' : St} {M' : St} (h : X5_set S a1 a2 a3 a4 = some (0, v, S')) (hM : X6_set M a1 a2 a3 a4 = some (v, M')) (hth : M' 0 25 = 0) (K : ∀ (fo' : Nat → Int64) (k' j' : Nat), k' ≤ kk + 1 → j' ≤ jj + 6 → XW p l e room_1 s m #[Value.ref b] below meth c D [] 7 Q (wE cI cZ ad S' (eo ad (ad 0) (ad 7) (oc ao cJ fo' (wM cI cZ am M' [])))) k' j' 1689 [(0, .ref b), (1, .ref (ad 32)), (2, .ref (am 0)), (3, .ref ao), (4, .int i)] []) : XW p l e room_1 s m #[Value.ref b] below meth c D [] 7 Q (wE cI cZ ad S (eo ad (ad 0) (ad 7) (oc ao cJ fo (wM cI cZ am M [])))) kk jj 296 [(0, .ref b), (1, .ref (ad 32)), (2, .ref (am 0)), (3, .ref ao), (4, .int i)] [] := by
  refine x_aload_n C 1 dL_law_296 rfl ?_
  refine x_aload_n C 0 dL_law_297 rfl ?_
  refine x_iload C 4 dL_law_298 rfl ?_
  refine x_iconst C (v := 1) dL_law_300 (by decide) ?_
  refine x_iadd C dL_law_301 ?_
  refine x_sld C G g1 e1 dL_law_302 ?_
  refine x_aload_n C 0 dL_law_303 rfl ?_
  refine x_iload C 4 dL_law_304 rfl ?_
  refine x_iconst C (v := 2) dL_law_306 (by decide) ?_
  refine x_iadd C dL_law_307 ?_
  refine x_sld C G g2 e2 dL_law_308 ?_
  refine x_aload_n C 0 dL_law_309 rfl ?_
  refine x_iload C 4 dL_law_310 rfl ?_
  refine x_iconst C (v := 3) dL_law_312 (by decide) ?_
  refine x_iadd C dL_law_313 ?_
  refine x_sld C G g3 e3 dL_law_314 ?_
  refine x_aload_n C 0 dL_law_315 rfl ?_
  refine x_iload C 4 dL_law_316 rfl ?_
  refine x_iconst C (v := 4) dL_law_318 (by decide) ?_
  refine x_iadd C dL_law_319 ?_
  refine x_sld C G g4 e4 dL_law_320 ?_
  refine x_aload_n C 3 dL_law_321 rfl ?_
  refine x_ci (mc := 0) (ms := 0) (x_runSW C G.2.2.1 G.2.2.2 (As := [.ref (ad 32), .int a1, .int a2, .int a3, .int a4, .ref ao]) (rest := []) (c_L_set_ok hfl h) (cwl_set C) rfl (Nat.le_of_ble_eq_true rfl) dL_law_322 ⟨by show kk + 0 ≤ 1094; omega, by show jj + 0 ≤ 10825; omega⟩) ?_
  refine x_istore C (lv' := [(0, .ref b), (1, .ref (ad 32)), (2, .ref (am 0)), (3, .ref ao), (4, .int i), (5, .int 0)]) dL_law_325 (by decide) rfl ?_
  refine x_aload_n C 2 dL_law_327 rfl ?_
  refine x_aload_n C 0 dL_law_328 rfl ?_
  refine x_iload C 4 dL_law_329 rfl ?_
  refine x_iconst C (v := 1) dL_law_331 (by decide) ?_
  refine x_iadd C dL_law_332 ?_
  refine x_sld C G g1 e1 dL_law_333 ?_
  refine x_aload_n C 0 dL_law_334 rfl ?_
  refine x_iload C 4 dL_law_335 rfl ?_
  refine x_iconst C (v := 2) dL_law_337 (by decide) ?_
  refine x_iadd C dL_law_338 ?_
  refine x_sld C G g2 e2 dL_law_339 ?_
  refine x_aload_n C 0 dL_law_340 rfl ?_
  refine x_iload C 4 dL_law_341 rfl ?_
  refine x_iconst C (v := 3) dL_law_343 (by decide) ?_
  refine x_iadd C dL_law_344 ?_
  refine x_sld C G g3 e3 dL_law_345 ?_
  refine x_aload_n C 0 dL_law_346 rfl ?_
  refine x_iload C 4 dL_law_347 rfl ?_
  refine x_iconst C (v := 4) dL_law_349 (by decide) ?_
  refine x_iadd C dL_law_350 ?_
  refine x_sld C G g4 e4 dL_law_351 ?_
  refine x_world (w' := (wM cI cZ am M (wE cI cZ ad S' (eo ad (ad 0) (ad 7) (oc ao cJ (vp_updL fo 0 v.toInt64) []))))) (wl_EM (D := D)).1 ((wl_EM (D := D)).2 _) ?_
  refine x_ci0 (x_runV C (As := [.int a1, .int a2, .int a3, .int a4]) (rest := []) (c_X6_set hM) (cwl6_set C) 0 rfl rfl rfl (Nat.le_of_ble_eq_true rfl) dL_law_352 ⟨by show kk + 0 + 0 ≤ 1094; omega, by show jj + 0 + 0 ≤ 10825; omega⟩) ?_
  refine x_istore C (lv' := [(0, .ref b), (1, .ref (ad 32)), (2, .ref (am 0)), (3, .ref ao), (4, .int i), (5, .int 0), (6, .int v)]) dL_law_355 (by decide) rfl ?_
  refine x_aload_n C 2 dL_law_357 rfl ?_
  refine x_ci0 (x_runV C (As := []) (rest := []) (c_X6_thrown (S := M') (r := M' 0 25) rfl) (cwl6_thrown C) 0 rfl rfl rfl (Nat.le_of_ble_eq_true rfl) dL_law_358 ⟨by show kk + 0 + 0 ≤ 1094; omega, by show jj + 0 + 0 ≤ 10825; omega⟩) ?_
  refine x_iload C 5 dL_law_361 rfl ?_
  refine x_icmp_eq C (t := 368) dL_law_363 (by decide) (fun _ => ?_) (fun c1 => absurd hth c1)
  refine x_iload C 5 dL_law_368 rfl ?_
  refine x_if_ne C (t := 385) dL_law_370 (by decide) (fun c1 => absurd rfl c1) (fun _ => ?_)
  refine x_aload_n C 3 dL_law_373 rfl ?_
  refine x_iconst C (v := 0) dL_law_374 (by decide) ?_
  refine x_lald C 57 rfl (show ¬ ((0:Int32) < 0 ∨ 1 ≤ (0:Int32).toNatClampNeg) by decide) dL_law_375 ?_
  refine x_iload C 6 dL_law_376 rfl ?_
  refine x_i2l C dL_law_378 ?_
  refine x_lcmp C dL_law_379 ?_
  refine x_if_eq C (t := 385) dL_law_380 (by decide) (fun _ => ?_) (fun c1 => absurd (lg_self _ _) c1)
  refine x_goto C (t := 1689) dL_law_385 (by decide) ?_
  refine x_world (w' := (wE cI cZ ad S' (eo ad (ad 0) (ad 7) (oc ao cJ (vp_updL fo 0 v.toInt64) (wM cI cZ am M' []))))) (wl_ME (D := D)).1 ((wl_ME (D := D)).2 _) ?_
  refine x_locals (lv' := [(0, .ref b), (1, .ref (ad 32)), (2, .ref (am 0)), (3, .ref ao), (4, .int i)]) [0, 1, 2, 3, 4] rfl ?_
  exact K _ _ _ (by omega) (by omega)
set_option maxHeartbeats 8000000 in
set_option maxRecDepth 100000 in
theorem LC_set_th0 {p : Program} {l : Launch} {e : Env} {s : State} {m : MethodId} {below : List Frame} {meth : Method} {c : Code} {D : va_G} {cI cZ cJ : ClassId} {ad am : Nat → Nat} {ao b L kk jj : Nat} {xs : Nat → Int32} {S M : St} {fo : Nat → Int64} {i : Int32} {Q : State → Prop} (C : XC p room_1 s m #[Value.ref b] meth c cL_law 7 (some .boolean) RL wsL_law D (t3 cI cZ cJ)) (G : LG s b L xs) (hfl : l.stackTraces = false) (hk : kk + 1 ≤ 1094) (hj : jj + 6 ≤ 10825) {a1 : Int32} {a2 : Int32} {a3 : Int32} {a4 : Int32} (g1 : vp_in (i + 1) L) (e1 : xs (i + 1).toNatClampNeg = a1) (g2 : vp_in (i + 2) L) (e2 : xs (i + 2).toNatClampNeg = a2) (g3 : vp_in (i + 3) L) (e3 : xs (i + 3).toNatClampNeg = a3) (g4 : vp_in (i + 4) L) (e4 : xs (i + 4).toNatClampNeg = a4) {v : Int32} {vb : Int32} {S' : St} {M' : St} (h : X5_set S a1 a2 a3 a4 = some (1, v, S')) (hM : X6_set M a1 a2 a3 a4 = some (vb, M')) (hth : M' 0 25 = 1) (K : ∀ (fo' : Nat → Int64) (k' j' : Nat), k' ≤ kk + 1 → j' ≤ jj + 6 → XW p l e room_1 s m #[Value.ref b] below meth c D [] 7 Q (wE cI cZ ad S' (eo ad (ad 0) (ad 7) (oc ao cJ fo' (wM cI cZ am M' [])))) k' j' 1689 [(0, .ref b), (1, .ref (ad 32)), (2, .ref (am 0)), (3, .ref ao), (4, .int i)] []) : XW p l e room_1 s m #[Value.ref b] below meth c D [] 7 Q (wE cI cZ ad S (eo ad (ad 0) (ad 7) (oc ao cJ fo (wM cI cZ am M [])))) kk jj 296 [(0, .ref b), (1, .ref (ad 32)), (2, .ref (am 0)), (3, .ref ao), (4, .int i)] [] := by
  refine x_aload_n C 1 dL_law_296 rfl ?_
  refine x_aload_n C 0 dL_law_297 rfl ?_
  refine x_iload C 4 dL_law_298 rfl ?_
  refine x_iconst C (v := 1) dL_law_300 (by decide) ?_
  refine x_iadd C dL_law_301 ?_
  refine x_sld C G g1 e1 dL_law_302 ?_
  refine x_aload_n C 0 dL_law_303 rfl ?_
  refine x_iload C 4 dL_law_304 rfl ?_
  refine x_iconst C (v := 2) dL_law_306 (by decide) ?_
  refine x_iadd C dL_law_307 ?_
  refine x_sld C G g2 e2 dL_law_308 ?_
  refine x_aload_n C 0 dL_law_309 rfl ?_
  refine x_iload C 4 dL_law_310 rfl ?_
  refine x_iconst C (v := 3) dL_law_312 (by decide) ?_
  refine x_iadd C dL_law_313 ?_
  refine x_sld C G g3 e3 dL_law_314 ?_
  refine x_aload_n C 0 dL_law_315 rfl ?_
  refine x_iload C 4 dL_law_316 rfl ?_
  refine x_iconst C (v := 4) dL_law_318 (by decide) ?_
  refine x_iadd C dL_law_319 ?_
  refine x_sld C G g4 e4 dL_law_320 ?_
  refine x_aload_n C 3 dL_law_321 rfl ?_
  refine x_ci (mc := 1) (ms := 6) (x_runSW C G.2.2.1 G.2.2.2 (As := [.ref (ad 32), .int a1, .int a2, .int a3, .int a4, .ref ao]) (rest := []) (c_L_set_th0 hfl h) (cwl_set_th C) rfl (Nat.le_of_ble_eq_true rfl) dL_law_322 ⟨by show kk + 1 ≤ 1094; omega, by show jj + 6 ≤ 10825; omega⟩) ?_
  refine x_istore C (lv' := [(0, .ref b), (1, .ref (ad 32)), (2, .ref (am 0)), (3, .ref ao), (4, .int i), (5, .int 1)]) dL_law_325 (by decide) rfl ?_
  refine x_aload_n C 2 dL_law_327 rfl ?_
  refine x_aload_n C 0 dL_law_328 rfl ?_
  refine x_iload C 4 dL_law_329 rfl ?_
  refine x_iconst C (v := 1) dL_law_331 (by decide) ?_
  refine x_iadd C dL_law_332 ?_
  refine x_sld C G g1 e1 dL_law_333 ?_
  refine x_aload_n C 0 dL_law_334 rfl ?_
  refine x_iload C 4 dL_law_335 rfl ?_
  refine x_iconst C (v := 2) dL_law_337 (by decide) ?_
  refine x_iadd C dL_law_338 ?_
  refine x_sld C G g2 e2 dL_law_339 ?_
  refine x_aload_n C 0 dL_law_340 rfl ?_
  refine x_iload C 4 dL_law_341 rfl ?_
  refine x_iconst C (v := 3) dL_law_343 (by decide) ?_
  refine x_iadd C dL_law_344 ?_
  refine x_sld C G g3 e3 dL_law_345 ?_
  refine x_aload_n C 0 dL_law_346 rfl ?_
  refine x_iload C 4 dL_law_347 rfl ?_
  refine x_iconst C (v := 4) dL_law_349 (by decide) ?_
  refine x_iadd C dL_law_350 ?_
  refine x_sld C G g4 e4 dL_law_351 ?_
  refine x_world (w' := (wM cI cZ am M (wE cI cZ ad S' (eo ad (ad 0) (ad 7) (oc ao cJ fo []))))) (wl_EM (D := D)).1 ((wl_EM (D := D)).2 _) ?_
  refine x_ci0 (x_runV C (As := [.int a1, .int a2, .int a3, .int a4]) (rest := []) (c_X6_set hM) (cwl6_set C) 0 rfl rfl rfl (Nat.le_of_ble_eq_true rfl) dL_law_352 ⟨by show kk + 1 + 0 ≤ 1094; omega, by show jj + 6 + 0 ≤ 10825; omega⟩) ?_
  refine x_istore C (lv' := [(0, .ref b), (1, .ref (ad 32)), (2, .ref (am 0)), (3, .ref ao), (4, .int i), (5, .int 1), (6, .int vb)]) dL_law_355 (by decide) rfl ?_
  refine x_aload_n C 2 dL_law_357 rfl ?_
  refine x_ci0 (x_runV C (As := []) (rest := []) (c_X6_thrown (S := M') (r := M' 0 25) rfl) (cwl6_thrown C) 0 rfl rfl rfl (Nat.le_of_ble_eq_true rfl) dL_law_358 ⟨by show kk + 1 + 0 ≤ 1094; omega, by show jj + 6 + 0 ≤ 10825; omega⟩) ?_
  refine x_iload C 5 dL_law_361 rfl ?_
  refine x_icmp_eq C (t := 368) dL_law_363 (by decide) (fun _ => ?_) (fun c1 => absurd hth c1)
  refine x_iload C 5 dL_law_368 rfl ?_
  refine x_if_ne C (t := 385) dL_law_370 (by decide) (fun _ => ?_) (fun c1 => absurd c1 (by decide))
  refine x_goto C (t := 1689) dL_law_385 (by decide) ?_
  refine x_world (w' := (wE cI cZ ad S' (eo ad (ad 0) (ad 7) (oc ao cJ fo (wM cI cZ am M' []))))) (wl_ME (D := D)).1 ((wl_ME (D := D)).2 _) ?_
  refine x_locals (lv' := [(0, .ref b), (1, .ref (ad 32)), (2, .ref (am 0)), (3, .ref ao), (4, .int i)]) [0, 1, 2, 3, 4] rfl ?_
  exact K _ _ _ (by omega) (by omega)
set_option maxHeartbeats 8000000 in
set_option maxRecDepth 100000 in
theorem LC_set_th1 {p : Program} {l : Launch} {e : Env} {s : State} {m : MethodId} {below : List Frame} {meth : Method} {c : Code} {D : va_G} {cI cZ cJ : ClassId} {ad am : Nat → Nat} {ao b L kk jj : Nat} {xs : Nat → Int32} {S M : St} {fo : Nat → Int64} {i : Int32} {Q : State → Prop} (C : XC p room_1 s m #[Value.ref b] meth c cL_law 7 (some .boolean) RL wsL_law D (t3 cI cZ cJ)) (G : LG s b L xs) (hfl : l.stackTraces = false) (hk : kk + 1 ≤ 1094) (hj : jj + 6 ≤ 10825) {a1 : Int32} {a2 : Int32} {a3 : Int32} {a4 : Int32} (g1 : vp_in (i + 1) L) (e1 : xs (i + 1).toNatClampNeg = a1) (g2 : vp_in (i + 2) L) (e2 : xs (i + 2).toNatClampNeg = a2) (g3 : vp_in (i + 3) L) (e3 : xs (i + 3).toNatClampNeg = a3) (g4 : vp_in (i + 4) L) (e4 : xs (i + 4).toNatClampNeg = a4) {v : Int32} {vb : Int32} {S' : St} {M' : St} (h : X5_set S a1 a2 a3 a4 = some (2, v, S')) (hM : X6_set M a1 a2 a3 a4 = some (vb, M')) (hth : M' 0 25 = 2) (K : ∀ (fo' : Nat → Int64) (k' j' : Nat), k' ≤ kk + 1 → j' ≤ jj + 6 → XW p l e room_1 s m #[Value.ref b] below meth c D [] 7 Q (wE cI cZ ad S' (eo ad (ad 0) (ad 7) (oc ao cJ fo' (wM cI cZ am M' [])))) k' j' 1689 [(0, .ref b), (1, .ref (ad 32)), (2, .ref (am 0)), (3, .ref ao), (4, .int i)] []) : XW p l e room_1 s m #[Value.ref b] below meth c D [] 7 Q (wE cI cZ ad S (eo ad (ad 0) (ad 7) (oc ao cJ fo (wM cI cZ am M [])))) kk jj 296 [(0, .ref b), (1, .ref (ad 32)), (2, .ref (am 0)), (3, .ref ao), (4, .int i)] [] := by
  refine x_aload_n C 1 dL_law_296 rfl ?_
  refine x_aload_n C 0 dL_law_297 rfl ?_
  refine x_iload C 4 dL_law_298 rfl ?_
  refine x_iconst C (v := 1) dL_law_300 (by decide) ?_
  refine x_iadd C dL_law_301 ?_
  refine x_sld C G g1 e1 dL_law_302 ?_
  refine x_aload_n C 0 dL_law_303 rfl ?_
  refine x_iload C 4 dL_law_304 rfl ?_
  refine x_iconst C (v := 2) dL_law_306 (by decide) ?_
  refine x_iadd C dL_law_307 ?_
  refine x_sld C G g2 e2 dL_law_308 ?_
  refine x_aload_n C 0 dL_law_309 rfl ?_
  refine x_iload C 4 dL_law_310 rfl ?_
  refine x_iconst C (v := 3) dL_law_312 (by decide) ?_
  refine x_iadd C dL_law_313 ?_
  refine x_sld C G g3 e3 dL_law_314 ?_
  refine x_aload_n C 0 dL_law_315 rfl ?_
  refine x_iload C 4 dL_law_316 rfl ?_
  refine x_iconst C (v := 4) dL_law_318 (by decide) ?_
  refine x_iadd C dL_law_319 ?_
  refine x_sld C G g4 e4 dL_law_320 ?_
  refine x_aload_n C 3 dL_law_321 rfl ?_
  refine x_ci (mc := 1) (ms := 6) (x_runSW C G.2.2.1 G.2.2.2 (As := [.ref (ad 32), .int a1, .int a2, .int a3, .int a4, .ref ao]) (rest := []) (c_L_set_th1 hfl h) (cwl_set_th C) rfl (Nat.le_of_ble_eq_true rfl) dL_law_322 ⟨by show kk + 1 ≤ 1094; omega, by show jj + 6 ≤ 10825; omega⟩) ?_
  refine x_istore C (lv' := [(0, .ref b), (1, .ref (ad 32)), (2, .ref (am 0)), (3, .ref ao), (4, .int i), (5, .int 2)]) dL_law_325 (by decide) rfl ?_
  refine x_aload_n C 2 dL_law_327 rfl ?_
  refine x_aload_n C 0 dL_law_328 rfl ?_
  refine x_iload C 4 dL_law_329 rfl ?_
  refine x_iconst C (v := 1) dL_law_331 (by decide) ?_
  refine x_iadd C dL_law_332 ?_
  refine x_sld C G g1 e1 dL_law_333 ?_
  refine x_aload_n C 0 dL_law_334 rfl ?_
  refine x_iload C 4 dL_law_335 rfl ?_
  refine x_iconst C (v := 2) dL_law_337 (by decide) ?_
  refine x_iadd C dL_law_338 ?_
  refine x_sld C G g2 e2 dL_law_339 ?_
  refine x_aload_n C 0 dL_law_340 rfl ?_
  refine x_iload C 4 dL_law_341 rfl ?_
  refine x_iconst C (v := 3) dL_law_343 (by decide) ?_
  refine x_iadd C dL_law_344 ?_
  refine x_sld C G g3 e3 dL_law_345 ?_
  refine x_aload_n C 0 dL_law_346 rfl ?_
  refine x_iload C 4 dL_law_347 rfl ?_
  refine x_iconst C (v := 4) dL_law_349 (by decide) ?_
  refine x_iadd C dL_law_350 ?_
  refine x_sld C G g4 e4 dL_law_351 ?_
  refine x_world (w' := (wM cI cZ am M (wE cI cZ ad S' (eo ad (ad 0) (ad 7) (oc ao cJ fo []))))) (wl_EM (D := D)).1 ((wl_EM (D := D)).2 _) ?_
  refine x_ci0 (x_runV C (As := [.int a1, .int a2, .int a3, .int a4]) (rest := []) (c_X6_set hM) (cwl6_set C) 0 rfl rfl rfl (Nat.le_of_ble_eq_true rfl) dL_law_352 ⟨by show kk + 1 + 0 ≤ 1094; omega, by show jj + 6 + 0 ≤ 10825; omega⟩) ?_
  refine x_istore C (lv' := [(0, .ref b), (1, .ref (ad 32)), (2, .ref (am 0)), (3, .ref ao), (4, .int i), (5, .int 2), (6, .int vb)]) dL_law_355 (by decide) rfl ?_
  refine x_aload_n C 2 dL_law_357 rfl ?_
  refine x_ci0 (x_runV C (As := []) (rest := []) (c_X6_thrown (S := M') (r := M' 0 25) rfl) (cwl6_thrown C) 0 rfl rfl rfl (Nat.le_of_ble_eq_true rfl) dL_law_358 ⟨by show kk + 1 + 0 ≤ 1094; omega, by show jj + 6 + 0 ≤ 10825; omega⟩) ?_
  refine x_iload C 5 dL_law_361 rfl ?_
  refine x_icmp_eq C (t := 368) dL_law_363 (by decide) (fun _ => ?_) (fun c1 => absurd hth c1)
  refine x_iload C 5 dL_law_368 rfl ?_
  refine x_if_ne C (t := 385) dL_law_370 (by decide) (fun _ => ?_) (fun c1 => absurd c1 (by decide))
  refine x_goto C (t := 1689) dL_law_385 (by decide) ?_
  refine x_world (w' := (wE cI cZ ad S' (eo ad (ad 0) (ad 7) (oc ao cJ fo (wM cI cZ am M' []))))) (wl_ME (D := D)).1 ((wl_ME (D := D)).2 _) ?_
  refine x_locals (lv' := [(0, .ref b), (1, .ref (ad 32)), (2, .ref (am 0)), (3, .ref ao), (4, .int i)]) [0, 1, 2, 3, 4] rfl ?_
  exact K _ _ _ (by omega) (by omega)
set_option maxHeartbeats 8000000 in
set_option maxRecDepth 100000 in
theorem LC_set_th2 {p : Program} {l : Launch} {e : Env} {s : State} {m : MethodId} {below : List Frame} {meth : Method} {c : Code} {D : va_G} {cI cZ cJ : ClassId} {ad am : Nat → Nat} {ao b L kk jj : Nat} {xs : Nat → Int32} {S M : St} {fo : Nat → Int64} {i : Int32} {Q : State → Prop} (C : XC p room_1 s m #[Value.ref b] meth c cL_law 7 (some .boolean) RL wsL_law D (t3 cI cZ cJ)) (G : LG s b L xs) (hfl : l.stackTraces = false) (hk : kk + 1 ≤ 1094) (hj : jj + 6 ≤ 10825) {a1 : Int32} {a2 : Int32} {a3 : Int32} {a4 : Int32} (g1 : vp_in (i + 1) L) (e1 : xs (i + 1).toNatClampNeg = a1) (g2 : vp_in (i + 2) L) (e2 : xs (i + 2).toNatClampNeg = a2) (g3 : vp_in (i + 3) L) (e3 : xs (i + 3).toNatClampNeg = a3) (g4 : vp_in (i + 4) L) (e4 : xs (i + 4).toNatClampNeg = a4) {v : Int32} {vb : Int32} {S' : St} {M' : St} (h : X5_set S a1 a2 a3 a4 = some (3, v, S')) (hM : X6_set M a1 a2 a3 a4 = some (vb, M')) (hth : M' 0 25 = 3) (K : ∀ (fo' : Nat → Int64) (k' j' : Nat), k' ≤ kk + 1 → j' ≤ jj + 6 → XW p l e room_1 s m #[Value.ref b] below meth c D [] 7 Q (wE cI cZ ad S' (eo ad (ad 0) (ad 7) (oc ao cJ fo' (wM cI cZ am M' [])))) k' j' 1689 [(0, .ref b), (1, .ref (ad 32)), (2, .ref (am 0)), (3, .ref ao), (4, .int i)] []) : XW p l e room_1 s m #[Value.ref b] below meth c D [] 7 Q (wE cI cZ ad S (eo ad (ad 0) (ad 7) (oc ao cJ fo (wM cI cZ am M [])))) kk jj 296 [(0, .ref b), (1, .ref (ad 32)), (2, .ref (am 0)), (3, .ref ao), (4, .int i)] [] := by
  refine x_aload_n C 1 dL_law_296 rfl ?_
  refine x_aload_n C 0 dL_law_297 rfl ?_
  refine x_iload C 4 dL_law_298 rfl ?_
  refine x_iconst C (v := 1) dL_law_300 (by decide) ?_
  refine x_iadd C dL_law_301 ?_
  refine x_sld C G g1 e1 dL_law_302 ?_
  refine x_aload_n C 0 dL_law_303 rfl ?_
  refine x_iload C 4 dL_law_304 rfl ?_
  refine x_iconst C (v := 2) dL_law_306 (by decide) ?_
  refine x_iadd C dL_law_307 ?_
  refine x_sld C G g2 e2 dL_law_308 ?_
  refine x_aload_n C 0 dL_law_309 rfl ?_
  refine x_iload C 4 dL_law_310 rfl ?_
  refine x_iconst C (v := 3) dL_law_312 (by decide) ?_
  refine x_iadd C dL_law_313 ?_
  refine x_sld C G g3 e3 dL_law_314 ?_
  refine x_aload_n C 0 dL_law_315 rfl ?_
  refine x_iload C 4 dL_law_316 rfl ?_
  refine x_iconst C (v := 4) dL_law_318 (by decide) ?_
  refine x_iadd C dL_law_319 ?_
  refine x_sld C G g4 e4 dL_law_320 ?_
  refine x_aload_n C 3 dL_law_321 rfl ?_
  refine x_ci (mc := 1) (ms := 6) (x_runSW C G.2.2.1 G.2.2.2 (As := [.ref (ad 32), .int a1, .int a2, .int a3, .int a4, .ref ao]) (rest := []) (c_L_set_th2 hfl h) (cwl_set_th C) rfl (Nat.le_of_ble_eq_true rfl) dL_law_322 ⟨by show kk + 1 ≤ 1094; omega, by show jj + 6 ≤ 10825; omega⟩) ?_
  refine x_istore C (lv' := [(0, .ref b), (1, .ref (ad 32)), (2, .ref (am 0)), (3, .ref ao), (4, .int i), (5, .int 3)]) dL_law_325 (by decide) rfl ?_
  refine x_aload_n C 2 dL_law_327 rfl ?_
  refine x_aload_n C 0 dL_law_328 rfl ?_
  refine x_iload C 4 dL_law_329 rfl ?_
  refine x_iconst C (v := 1) dL_law_331 (by decide) ?_
  refine x_iadd C dL_law_332 ?_
  refine x_sld C G g1 e1 dL_law_333 ?_
  refine x_aload_n C 0 dL_law_334 rfl ?_
  refine x_iload C 4 dL_law_335 rfl ?_
  refine x_iconst C (v := 2) dL_law_337 (by decide) ?_
  refine x_iadd C dL_law_338 ?_
  refine x_sld C G g2 e2 dL_law_339 ?_
  refine x_aload_n C 0 dL_law_340 rfl ?_
  refine x_iload C 4 dL_law_341 rfl ?_
  refine x_iconst C (v := 3) dL_law_343 (by decide) ?_
  refine x_iadd C dL_law_344 ?_
  refine x_sld C G g3 e3 dL_law_345 ?_
  refine x_aload_n C 0 dL_law_346 rfl ?_
  refine x_iload C 4 dL_law_347 rfl ?_
  refine x_iconst C (v := 4) dL_law_349 (by decide) ?_
  refine x_iadd C dL_law_350 ?_
  refine x_sld C G g4 e4 dL_law_351 ?_
  refine x_world (w' := (wM cI cZ am M (wE cI cZ ad S' (eo ad (ad 0) (ad 7) (oc ao cJ fo []))))) (wl_EM (D := D)).1 ((wl_EM (D := D)).2 _) ?_
  refine x_ci0 (x_runV C (As := [.int a1, .int a2, .int a3, .int a4]) (rest := []) (c_X6_set hM) (cwl6_set C) 0 rfl rfl rfl (Nat.le_of_ble_eq_true rfl) dL_law_352 ⟨by show kk + 1 + 0 ≤ 1094; omega, by show jj + 6 + 0 ≤ 10825; omega⟩) ?_
  refine x_istore C (lv' := [(0, .ref b), (1, .ref (ad 32)), (2, .ref (am 0)), (3, .ref ao), (4, .int i), (5, .int 3), (6, .int vb)]) dL_law_355 (by decide) rfl ?_
  refine x_aload_n C 2 dL_law_357 rfl ?_
  refine x_ci0 (x_runV C (As := []) (rest := []) (c_X6_thrown (S := M') (r := M' 0 25) rfl) (cwl6_thrown C) 0 rfl rfl rfl (Nat.le_of_ble_eq_true rfl) dL_law_358 ⟨by show kk + 1 + 0 ≤ 1094; omega, by show jj + 6 + 0 ≤ 10825; omega⟩) ?_
  refine x_iload C 5 dL_law_361 rfl ?_
  refine x_icmp_eq C (t := 368) dL_law_363 (by decide) (fun _ => ?_) (fun c1 => absurd hth c1)
  refine x_iload C 5 dL_law_368 rfl ?_
  refine x_if_ne C (t := 385) dL_law_370 (by decide) (fun _ => ?_) (fun c1 => absurd c1 (by decide))
  refine x_goto C (t := 1689) dL_law_385 (by decide) ?_
  refine x_world (w' := (wE cI cZ ad S' (eo ad (ad 0) (ad 7) (oc ao cJ fo (wM cI cZ am M' []))))) (wl_ME (D := D)).1 ((wl_ME (D := D)).2 _) ?_
  refine x_locals (lv' := [(0, .ref b), (1, .ref (ad 32)), (2, .ref (am 0)), (3, .ref ao), (4, .int i)]) [0, 1, 2, 3, 4] rfl ?_
  exact K _ _ _ (by omega) (by omega)
set_option maxHeartbeats 8000000 in
set_option maxRecDepth 100000 in
theorem LC_move_ok {p : Program} {l : Launch} {e : Env} {s : State} {m : MethodId} {below : List Frame} {meth : Method} {c : Code} {D : va_G} {cI cZ cJ : ClassId} {ad am : Nat → Nat} {ao b L kk jj : Nat} {xs : Nat → Int32} {S M : St} {fo : Nat → Int64} {i : Int32} {Q : State → Prop} (C : XC p room_1 s m #[Value.ref b] meth c cL_law 7 (some .boolean) RL wsL_law D (t3 cI cZ cJ)) (G : LG s b L xs) (hfl : l.stackTraces = false) (hk : kk + 1 ≤ 1094) (hj : jj + 6 ≤ 10825) {a1 : Int32} {a2 : Int32} {a3 : Int32} {a4 : Int32} (g1 : vp_in (i + 1) L) (e1 : xs (i + 1).toNatClampNeg = a1) (g2 : vp_in (i + 2) L) (e2 : xs (i + 2).toNatClampNeg = a2) (g3 : vp_in (i + 3) L) (e3 : xs (i + 3).toNatClampNeg = a3) (g4 : vp_in (i + 4) L) (e4 : xs (i + 4).toNatClampNeg = a4) {v : Int32} {S' : St} {M' : St} (h : X5_move S a1 a2 a3 a4 = some (0, v, S')) (hM : X6_move M a1 a2 a3 a4 = some (v, M')) (hth : M' 0 25 = 0) (K : ∀ (fo' : Nat → Int64) (k' j' : Nat), k' ≤ kk + 1 → j' ≤ jj + 6 → XW p l e room_1 s m #[Value.ref b] below meth c D [] 7 Q (wE cI cZ ad S' (eo ad (ad 0) (ad 7) (oc ao cJ fo' (wM cI cZ am M' [])))) k' j' 1689 [(0, .ref b), (1, .ref (ad 32)), (2, .ref (am 0)), (3, .ref ao), (4, .int i)] []) : XW p l e room_1 s m #[Value.ref b] below meth c D [] 7 Q (wE cI cZ ad S (eo ad (ad 0) (ad 7) (oc ao cJ fo (wM cI cZ am M [])))) kk jj 388 [(0, .ref b), (1, .ref (ad 32)), (2, .ref (am 0)), (3, .ref ao), (4, .int i)] [] := by
  refine x_aload_n C 1 dL_law_388 rfl ?_
  refine x_aload_n C 0 dL_law_389 rfl ?_
  refine x_iload C 4 dL_law_390 rfl ?_
  refine x_iconst C (v := 1) dL_law_392 (by decide) ?_
  refine x_iadd C dL_law_393 ?_
  refine x_sld C G g1 e1 dL_law_394 ?_
  refine x_aload_n C 0 dL_law_395 rfl ?_
  refine x_iload C 4 dL_law_396 rfl ?_
  refine x_iconst C (v := 2) dL_law_398 (by decide) ?_
  refine x_iadd C dL_law_399 ?_
  refine x_sld C G g2 e2 dL_law_400 ?_
  refine x_aload_n C 0 dL_law_401 rfl ?_
  refine x_iload C 4 dL_law_402 rfl ?_
  refine x_iconst C (v := 3) dL_law_404 (by decide) ?_
  refine x_iadd C dL_law_405 ?_
  refine x_sld C G g3 e3 dL_law_406 ?_
  refine x_aload_n C 0 dL_law_407 rfl ?_
  refine x_iload C 4 dL_law_408 rfl ?_
  refine x_iconst C (v := 4) dL_law_410 (by decide) ?_
  refine x_iadd C dL_law_411 ?_
  refine x_sld C G g4 e4 dL_law_412 ?_
  refine x_aload_n C 3 dL_law_413 rfl ?_
  refine x_ci (mc := 0) (ms := 0) (x_runSW C G.2.2.1 G.2.2.2 (As := [.ref (ad 32), .int a1, .int a2, .int a3, .int a4, .ref ao]) (rest := []) (c_L_move_ok hfl h) (cwl_move C) rfl (Nat.le_of_ble_eq_true rfl) dL_law_414 ⟨by show kk + 0 ≤ 1094; omega, by show jj + 0 ≤ 10825; omega⟩) ?_
  refine x_istore C (lv' := [(0, .ref b), (1, .ref (ad 32)), (2, .ref (am 0)), (3, .ref ao), (4, .int i), (5, .int 0)]) dL_law_417 (by decide) rfl ?_
  refine x_aload_n C 2 dL_law_419 rfl ?_
  refine x_aload_n C 0 dL_law_420 rfl ?_
  refine x_iload C 4 dL_law_421 rfl ?_
  refine x_iconst C (v := 1) dL_law_423 (by decide) ?_
  refine x_iadd C dL_law_424 ?_
  refine x_sld C G g1 e1 dL_law_425 ?_
  refine x_aload_n C 0 dL_law_426 rfl ?_
  refine x_iload C 4 dL_law_427 rfl ?_
  refine x_iconst C (v := 2) dL_law_429 (by decide) ?_
  refine x_iadd C dL_law_430 ?_
  refine x_sld C G g2 e2 dL_law_431 ?_
  refine x_aload_n C 0 dL_law_432 rfl ?_
  refine x_iload C 4 dL_law_433 rfl ?_
  refine x_iconst C (v := 3) dL_law_435 (by decide) ?_
  refine x_iadd C dL_law_436 ?_
  refine x_sld C G g3 e3 dL_law_437 ?_
  refine x_aload_n C 0 dL_law_438 rfl ?_
  refine x_iload C 4 dL_law_439 rfl ?_
  refine x_iconst C (v := 4) dL_law_441 (by decide) ?_
  refine x_iadd C dL_law_442 ?_
  refine x_sld C G g4 e4 dL_law_443 ?_
  refine x_world (w' := (wM cI cZ am M (wE cI cZ ad S' (eo ad (ad 0) (ad 7) (oc ao cJ (vp_updL fo 0 v.toInt64) []))))) (wl_EM (D := D)).1 ((wl_EM (D := D)).2 _) ?_
  refine x_ci0 (x_runV C (As := [.int a1, .int a2, .int a3, .int a4]) (rest := []) (c_X6_move hM) (cwl6_move C) 0 rfl rfl rfl (Nat.le_of_ble_eq_true rfl) dL_law_444 ⟨by show kk + 0 + 0 ≤ 1094; omega, by show jj + 0 + 0 ≤ 10825; omega⟩) ?_
  refine x_istore C (lv' := [(0, .ref b), (1, .ref (ad 32)), (2, .ref (am 0)), (3, .ref ao), (4, .int i), (5, .int 0), (6, .int v)]) dL_law_447 (by decide) rfl ?_
  refine x_aload_n C 2 dL_law_449 rfl ?_
  refine x_ci0 (x_runV C (As := []) (rest := []) (c_X6_thrown (S := M') (r := M' 0 25) rfl) (cwl6_thrown C) 0 rfl rfl rfl (Nat.le_of_ble_eq_true rfl) dL_law_450 ⟨by show kk + 0 + 0 ≤ 1094; omega, by show jj + 0 + 0 ≤ 10825; omega⟩) ?_
  refine x_iload C 5 dL_law_453 rfl ?_
  refine x_icmp_eq C (t := 460) dL_law_455 (by decide) (fun _ => ?_) (fun c1 => absurd hth c1)
  refine x_iload C 5 dL_law_460 rfl ?_
  refine x_if_ne C (t := 477) dL_law_462 (by decide) (fun c1 => absurd rfl c1) (fun _ => ?_)
  refine x_aload_n C 3 dL_law_465 rfl ?_
  refine x_iconst C (v := 0) dL_law_466 (by decide) ?_
  refine x_lald C 57 rfl (show ¬ ((0:Int32) < 0 ∨ 1 ≤ (0:Int32).toNatClampNeg) by decide) dL_law_467 ?_
  refine x_iload C 6 dL_law_468 rfl ?_
  refine x_i2l C dL_law_470 ?_
  refine x_lcmp C dL_law_471 ?_
  refine x_if_eq C (t := 477) dL_law_472 (by decide) (fun _ => ?_) (fun c1 => absurd (lg_self _ _) c1)
  refine x_goto C (t := 1689) dL_law_477 (by decide) ?_
  refine x_world (w' := (wE cI cZ ad S' (eo ad (ad 0) (ad 7) (oc ao cJ (vp_updL fo 0 v.toInt64) (wM cI cZ am M' []))))) (wl_ME (D := D)).1 ((wl_ME (D := D)).2 _) ?_
  refine x_locals (lv' := [(0, .ref b), (1, .ref (ad 32)), (2, .ref (am 0)), (3, .ref ao), (4, .int i)]) [0, 1, 2, 3, 4] rfl ?_
  exact K _ _ _ (by omega) (by omega)
set_option maxHeartbeats 8000000 in
set_option maxRecDepth 100000 in
theorem LC_move_th0 {p : Program} {l : Launch} {e : Env} {s : State} {m : MethodId} {below : List Frame} {meth : Method} {c : Code} {D : va_G} {cI cZ cJ : ClassId} {ad am : Nat → Nat} {ao b L kk jj : Nat} {xs : Nat → Int32} {S M : St} {fo : Nat → Int64} {i : Int32} {Q : State → Prop} (C : XC p room_1 s m #[Value.ref b] meth c cL_law 7 (some .boolean) RL wsL_law D (t3 cI cZ cJ)) (G : LG s b L xs) (hfl : l.stackTraces = false) (hk : kk + 1 ≤ 1094) (hj : jj + 6 ≤ 10825) {a1 : Int32} {a2 : Int32} {a3 : Int32} {a4 : Int32} (g1 : vp_in (i + 1) L) (e1 : xs (i + 1).toNatClampNeg = a1) (g2 : vp_in (i + 2) L) (e2 : xs (i + 2).toNatClampNeg = a2) (g3 : vp_in (i + 3) L) (e3 : xs (i + 3).toNatClampNeg = a3) (g4 : vp_in (i + 4) L) (e4 : xs (i + 4).toNatClampNeg = a4) {v : Int32} {vb : Int32} {S' : St} {M' : St} (h : X5_move S a1 a2 a3 a4 = some (1, v, S')) (hM : X6_move M a1 a2 a3 a4 = some (vb, M')) (hth : M' 0 25 = 1) (K : ∀ (fo' : Nat → Int64) (k' j' : Nat), k' ≤ kk + 1 → j' ≤ jj + 6 → XW p l e room_1 s m #[Value.ref b] below meth c D [] 7 Q (wE cI cZ ad S' (eo ad (ad 0) (ad 7) (oc ao cJ fo' (wM cI cZ am M' [])))) k' j' 1689 [(0, .ref b), (1, .ref (ad 32)), (2, .ref (am 0)), (3, .ref ao), (4, .int i)] []) : XW p l e room_1 s m #[Value.ref b] below meth c D [] 7 Q (wE cI cZ ad S (eo ad (ad 0) (ad 7) (oc ao cJ fo (wM cI cZ am M [])))) kk jj 388 [(0, .ref b), (1, .ref (ad 32)), (2, .ref (am 0)), (3, .ref ao), (4, .int i)] [] := by
  refine x_aload_n C 1 dL_law_388 rfl ?_
  refine x_aload_n C 0 dL_law_389 rfl ?_
  refine x_iload C 4 dL_law_390 rfl ?_
  refine x_iconst C (v := 1) dL_law_392 (by decide) ?_
  refine x_iadd C dL_law_393 ?_
  refine x_sld C G g1 e1 dL_law_394 ?_
  refine x_aload_n C 0 dL_law_395 rfl ?_
  refine x_iload C 4 dL_law_396 rfl ?_
  refine x_iconst C (v := 2) dL_law_398 (by decide) ?_
  refine x_iadd C dL_law_399 ?_
  refine x_sld C G g2 e2 dL_law_400 ?_
  refine x_aload_n C 0 dL_law_401 rfl ?_
  refine x_iload C 4 dL_law_402 rfl ?_
  refine x_iconst C (v := 3) dL_law_404 (by decide) ?_
  refine x_iadd C dL_law_405 ?_
  refine x_sld C G g3 e3 dL_law_406 ?_
  refine x_aload_n C 0 dL_law_407 rfl ?_
  refine x_iload C 4 dL_law_408 rfl ?_
  refine x_iconst C (v := 4) dL_law_410 (by decide) ?_
  refine x_iadd C dL_law_411 ?_
  refine x_sld C G g4 e4 dL_law_412 ?_
  refine x_aload_n C 3 dL_law_413 rfl ?_
  refine x_ci (mc := 1) (ms := 6) (x_runSW C G.2.2.1 G.2.2.2 (As := [.ref (ad 32), .int a1, .int a2, .int a3, .int a4, .ref ao]) (rest := []) (c_L_move_th0 hfl h) (cwl_move_th C) rfl (Nat.le_of_ble_eq_true rfl) dL_law_414 ⟨by show kk + 1 ≤ 1094; omega, by show jj + 6 ≤ 10825; omega⟩) ?_
  refine x_istore C (lv' := [(0, .ref b), (1, .ref (ad 32)), (2, .ref (am 0)), (3, .ref ao), (4, .int i), (5, .int 1)]) dL_law_417 (by decide) rfl ?_
  refine x_aload_n C 2 dL_law_419 rfl ?_
  refine x_aload_n C 0 dL_law_420 rfl ?_
  refine x_iload C 4 dL_law_421 rfl ?_
  refine x_iconst C (v := 1) dL_law_423 (by decide) ?_
  refine x_iadd C dL_law_424 ?_
  refine x_sld C G g1 e1 dL_law_425 ?_
  refine x_aload_n C 0 dL_law_426 rfl ?_
  refine x_iload C 4 dL_law_427 rfl ?_
  refine x_iconst C (v := 2) dL_law_429 (by decide) ?_
  refine x_iadd C dL_law_430 ?_
  refine x_sld C G g2 e2 dL_law_431 ?_
  refine x_aload_n C 0 dL_law_432 rfl ?_
  refine x_iload C 4 dL_law_433 rfl ?_
  refine x_iconst C (v := 3) dL_law_435 (by decide) ?_
  refine x_iadd C dL_law_436 ?_
  refine x_sld C G g3 e3 dL_law_437 ?_
  refine x_aload_n C 0 dL_law_438 rfl ?_
  refine x_iload C 4 dL_law_439 rfl ?_
  refine x_iconst C (v := 4) dL_law_441 (by decide) ?_
  refine x_iadd C dL_law_442 ?_
  refine x_sld C G g4 e4 dL_law_443 ?_
  refine x_world (w' := (wM cI cZ am M (wE cI cZ ad S' (eo ad (ad 0) (ad 7) (oc ao cJ fo []))))) (wl_EM (D := D)).1 ((wl_EM (D := D)).2 _) ?_
  refine x_ci0 (x_runV C (As := [.int a1, .int a2, .int a3, .int a4]) (rest := []) (c_X6_move hM) (cwl6_move C) 0 rfl rfl rfl (Nat.le_of_ble_eq_true rfl) dL_law_444 ⟨by show kk + 1 + 0 ≤ 1094; omega, by show jj + 6 + 0 ≤ 10825; omega⟩) ?_
  refine x_istore C (lv' := [(0, .ref b), (1, .ref (ad 32)), (2, .ref (am 0)), (3, .ref ao), (4, .int i), (5, .int 1), (6, .int vb)]) dL_law_447 (by decide) rfl ?_
  refine x_aload_n C 2 dL_law_449 rfl ?_
  refine x_ci0 (x_runV C (As := []) (rest := []) (c_X6_thrown (S := M') (r := M' 0 25) rfl) (cwl6_thrown C) 0 rfl rfl rfl (Nat.le_of_ble_eq_true rfl) dL_law_450 ⟨by show kk + 1 + 0 ≤ 1094; omega, by show jj + 6 + 0 ≤ 10825; omega⟩) ?_
  refine x_iload C 5 dL_law_453 rfl ?_
  refine x_icmp_eq C (t := 460) dL_law_455 (by decide) (fun _ => ?_) (fun c1 => absurd hth c1)
  refine x_iload C 5 dL_law_460 rfl ?_
  refine x_if_ne C (t := 477) dL_law_462 (by decide) (fun _ => ?_) (fun c1 => absurd c1 (by decide))
  refine x_goto C (t := 1689) dL_law_477 (by decide) ?_
  refine x_world (w' := (wE cI cZ ad S' (eo ad (ad 0) (ad 7) (oc ao cJ fo (wM cI cZ am M' []))))) (wl_ME (D := D)).1 ((wl_ME (D := D)).2 _) ?_
  refine x_locals (lv' := [(0, .ref b), (1, .ref (ad 32)), (2, .ref (am 0)), (3, .ref ao), (4, .int i)]) [0, 1, 2, 3, 4] rfl ?_
  exact K _ _ _ (by omega) (by omega)
set_option maxHeartbeats 8000000 in
set_option maxRecDepth 100000 in
theorem LC_move_th1 {p : Program} {l : Launch} {e : Env} {s : State} {m : MethodId} {below : List Frame} {meth : Method} {c : Code} {D : va_G} {cI cZ cJ : ClassId} {ad am : Nat → Nat} {ao b L kk jj : Nat} {xs : Nat → Int32} {S M : St} {fo : Nat → Int64} {i : Int32} {Q : State → Prop} (C : XC p room_1 s m #[Value.ref b] meth c cL_law 7 (some .boolean) RL wsL_law D (t3 cI cZ cJ)) (G : LG s b L xs) (hfl : l.stackTraces = false) (hk : kk + 1 ≤ 1094) (hj : jj + 6 ≤ 10825) {a1 : Int32} {a2 : Int32} {a3 : Int32} {a4 : Int32} (g1 : vp_in (i + 1) L) (e1 : xs (i + 1).toNatClampNeg = a1) (g2 : vp_in (i + 2) L) (e2 : xs (i + 2).toNatClampNeg = a2) (g3 : vp_in (i + 3) L) (e3 : xs (i + 3).toNatClampNeg = a3) (g4 : vp_in (i + 4) L) (e4 : xs (i + 4).toNatClampNeg = a4) {v : Int32} {vb : Int32} {S' : St} {M' : St} (h : X5_move S a1 a2 a3 a4 = some (2, v, S')) (hM : X6_move M a1 a2 a3 a4 = some (vb, M')) (hth : M' 0 25 = 2) (K : ∀ (fo' : Nat → Int64) (k' j' : Nat), k' ≤ kk + 1 → j' ≤ jj + 6 → XW p l e room_1 s m #[Value.ref b] below meth c D [] 7 Q (wE cI cZ ad S' (eo ad (ad 0) (ad 7) (oc ao cJ fo' (wM cI cZ am M' [])))) k' j' 1689 [(0, .ref b), (1, .ref (ad 32)), (2, .ref (am 0)), (3, .ref ao), (4, .int i)] []) : XW p l e room_1 s m #[Value.ref b] below meth c D [] 7 Q (wE cI cZ ad S (eo ad (ad 0) (ad 7) (oc ao cJ fo (wM cI cZ am M [])))) kk jj 388 [(0, .ref b), (1, .ref (ad 32)), (2, .ref (am 0)), (3, .ref ao), (4, .int i)] [] := by
  refine x_aload_n C 1 dL_law_388 rfl ?_
  refine x_aload_n C 0 dL_law_389 rfl ?_
  refine x_iload C 4 dL_law_390 rfl ?_
  refine x_iconst C (v := 1) dL_law_392 (by decide) ?_
  refine x_iadd C dL_law_393 ?_
  refine x_sld C G g1 e1 dL_law_394 ?_
  refine x_aload_n C 0 dL_law_395 rfl ?_
  refine x_iload C 4 dL_law_396 rfl ?_
  refine x_iconst C (v := 2) dL_law_398 (by decide) ?_
  refine x_iadd C dL_law_399 ?_
  refine x_sld C G g2 e2 dL_law_400 ?_
  refine x_aload_n C 0 dL_law_401 rfl ?_
  refine x_iload C 4 dL_law_402 rfl ?_
  refine x_iconst C (v := 3) dL_law_404 (by decide) ?_
  refine x_iadd C dL_law_405 ?_
  refine x_sld C G g3 e3 dL_law_406 ?_
  refine x_aload_n C 0 dL_law_407 rfl ?_
  refine x_iload C 4 dL_law_408 rfl ?_
  refine x_iconst C (v := 4) dL_law_410 (by decide) ?_
  refine x_iadd C dL_law_411 ?_
  refine x_sld C G g4 e4 dL_law_412 ?_
  refine x_aload_n C 3 dL_law_413 rfl ?_
  refine x_ci (mc := 1) (ms := 6) (x_runSW C G.2.2.1 G.2.2.2 (As := [.ref (ad 32), .int a1, .int a2, .int a3, .int a4, .ref ao]) (rest := []) (c_L_move_th1 hfl h) (cwl_move_th C) rfl (Nat.le_of_ble_eq_true rfl) dL_law_414 ⟨by show kk + 1 ≤ 1094; omega, by show jj + 6 ≤ 10825; omega⟩) ?_
  refine x_istore C (lv' := [(0, .ref b), (1, .ref (ad 32)), (2, .ref (am 0)), (3, .ref ao), (4, .int i), (5, .int 2)]) dL_law_417 (by decide) rfl ?_
  refine x_aload_n C 2 dL_law_419 rfl ?_
  refine x_aload_n C 0 dL_law_420 rfl ?_
  refine x_iload C 4 dL_law_421 rfl ?_
  refine x_iconst C (v := 1) dL_law_423 (by decide) ?_
  refine x_iadd C dL_law_424 ?_
  refine x_sld C G g1 e1 dL_law_425 ?_
  refine x_aload_n C 0 dL_law_426 rfl ?_
  refine x_iload C 4 dL_law_427 rfl ?_
  refine x_iconst C (v := 2) dL_law_429 (by decide) ?_
  refine x_iadd C dL_law_430 ?_
  refine x_sld C G g2 e2 dL_law_431 ?_
  refine x_aload_n C 0 dL_law_432 rfl ?_
  refine x_iload C 4 dL_law_433 rfl ?_
  refine x_iconst C (v := 3) dL_law_435 (by decide) ?_
  refine x_iadd C dL_law_436 ?_
  refine x_sld C G g3 e3 dL_law_437 ?_
  refine x_aload_n C 0 dL_law_438 rfl ?_
  refine x_iload C 4 dL_law_439 rfl ?_
  refine x_iconst C (v := 4) dL_law_441 (by decide) ?_
  refine x_iadd C dL_law_442 ?_
  refine x_sld C G g4 e4 dL_law_443 ?_
  refine x_world (w' := (wM cI cZ am M (wE cI cZ ad S' (eo ad (ad 0) (ad 7) (oc ao cJ fo []))))) (wl_EM (D := D)).1 ((wl_EM (D := D)).2 _) ?_
  refine x_ci0 (x_runV C (As := [.int a1, .int a2, .int a3, .int a4]) (rest := []) (c_X6_move hM) (cwl6_move C) 0 rfl rfl rfl (Nat.le_of_ble_eq_true rfl) dL_law_444 ⟨by show kk + 1 + 0 ≤ 1094; omega, by show jj + 6 + 0 ≤ 10825; omega⟩) ?_
  refine x_istore C (lv' := [(0, .ref b), (1, .ref (ad 32)), (2, .ref (am 0)), (3, .ref ao), (4, .int i), (5, .int 2), (6, .int vb)]) dL_law_447 (by decide) rfl ?_
  refine x_aload_n C 2 dL_law_449 rfl ?_
  refine x_ci0 (x_runV C (As := []) (rest := []) (c_X6_thrown (S := M') (r := M' 0 25) rfl) (cwl6_thrown C) 0 rfl rfl rfl (Nat.le_of_ble_eq_true rfl) dL_law_450 ⟨by show kk + 1 + 0 ≤ 1094; omega, by show jj + 6 + 0 ≤ 10825; omega⟩) ?_
  refine x_iload C 5 dL_law_453 rfl ?_
  refine x_icmp_eq C (t := 460) dL_law_455 (by decide) (fun _ => ?_) (fun c1 => absurd hth c1)
  refine x_iload C 5 dL_law_460 rfl ?_
  refine x_if_ne C (t := 477) dL_law_462 (by decide) (fun _ => ?_) (fun c1 => absurd c1 (by decide))
  refine x_goto C (t := 1689) dL_law_477 (by decide) ?_
  refine x_world (w' := (wE cI cZ ad S' (eo ad (ad 0) (ad 7) (oc ao cJ fo (wM cI cZ am M' []))))) (wl_ME (D := D)).1 ((wl_ME (D := D)).2 _) ?_
  refine x_locals (lv' := [(0, .ref b), (1, .ref (ad 32)), (2, .ref (am 0)), (3, .ref ao), (4, .int i)]) [0, 1, 2, 3, 4] rfl ?_
  exact K _ _ _ (by omega) (by omega)
set_option maxHeartbeats 8000000 in
set_option maxRecDepth 100000 in
theorem LC_move_th2 {p : Program} {l : Launch} {e : Env} {s : State} {m : MethodId} {below : List Frame} {meth : Method} {c : Code} {D : va_G} {cI cZ cJ : ClassId} {ad am : Nat → Nat} {ao b L kk jj : Nat} {xs : Nat → Int32} {S M : St} {fo : Nat → Int64} {i : Int32} {Q : State → Prop} (C : XC p room_1 s m #[Value.ref b] meth c cL_law 7 (some .boolean) RL wsL_law D (t3 cI cZ cJ)) (G : LG s b L xs) (hfl : l.stackTraces = false) (hk : kk + 1 ≤ 1094) (hj : jj + 6 ≤ 10825) {a1 : Int32} {a2 : Int32} {a3 : Int32} {a4 : Int32} (g1 : vp_in (i + 1) L) (e1 : xs (i + 1).toNatClampNeg = a1) (g2 : vp_in (i + 2) L) (e2 : xs (i + 2).toNatClampNeg = a2) (g3 : vp_in (i + 3) L) (e3 : xs (i + 3).toNatClampNeg = a3) (g4 : vp_in (i + 4) L) (e4 : xs (i + 4).toNatClampNeg = a4) {v : Int32} {vb : Int32} {S' : St} {M' : St} (h : X5_move S a1 a2 a3 a4 = some (3, v, S')) (hM : X6_move M a1 a2 a3 a4 = some (vb, M')) (hth : M' 0 25 = 3) (K : ∀ (fo' : Nat → Int64) (k' j' : Nat), k' ≤ kk + 1 → j' ≤ jj + 6 → XW p l e room_1 s m #[Value.ref b] below meth c D [] 7 Q (wE cI cZ ad S' (eo ad (ad 0) (ad 7) (oc ao cJ fo' (wM cI cZ am M' [])))) k' j' 1689 [(0, .ref b), (1, .ref (ad 32)), (2, .ref (am 0)), (3, .ref ao), (4, .int i)] []) : XW p l e room_1 s m #[Value.ref b] below meth c D [] 7 Q (wE cI cZ ad S (eo ad (ad 0) (ad 7) (oc ao cJ fo (wM cI cZ am M [])))) kk jj 388 [(0, .ref b), (1, .ref (ad 32)), (2, .ref (am 0)), (3, .ref ao), (4, .int i)] [] := by
  refine x_aload_n C 1 dL_law_388 rfl ?_
  refine x_aload_n C 0 dL_law_389 rfl ?_
  refine x_iload C 4 dL_law_390 rfl ?_
  refine x_iconst C (v := 1) dL_law_392 (by decide) ?_
  refine x_iadd C dL_law_393 ?_
  refine x_sld C G g1 e1 dL_law_394 ?_
  refine x_aload_n C 0 dL_law_395 rfl ?_
  refine x_iload C 4 dL_law_396 rfl ?_
  refine x_iconst C (v := 2) dL_law_398 (by decide) ?_
  refine x_iadd C dL_law_399 ?_
  refine x_sld C G g2 e2 dL_law_400 ?_
  refine x_aload_n C 0 dL_law_401 rfl ?_
  refine x_iload C 4 dL_law_402 rfl ?_
  refine x_iconst C (v := 3) dL_law_404 (by decide) ?_
  refine x_iadd C dL_law_405 ?_
  refine x_sld C G g3 e3 dL_law_406 ?_
  refine x_aload_n C 0 dL_law_407 rfl ?_
  refine x_iload C 4 dL_law_408 rfl ?_
  refine x_iconst C (v := 4) dL_law_410 (by decide) ?_
  refine x_iadd C dL_law_411 ?_
  refine x_sld C G g4 e4 dL_law_412 ?_
  refine x_aload_n C 3 dL_law_413 rfl ?_
  refine x_ci (mc := 1) (ms := 6) (x_runSW C G.2.2.1 G.2.2.2 (As := [.ref (ad 32), .int a1, .int a2, .int a3, .int a4, .ref ao]) (rest := []) (c_L_move_th2 hfl h) (cwl_move_th C) rfl (Nat.le_of_ble_eq_true rfl) dL_law_414 ⟨by show kk + 1 ≤ 1094; omega, by show jj + 6 ≤ 10825; omega⟩) ?_
  refine x_istore C (lv' := [(0, .ref b), (1, .ref (ad 32)), (2, .ref (am 0)), (3, .ref ao), (4, .int i), (5, .int 3)]) dL_law_417 (by decide) rfl ?_
  refine x_aload_n C 2 dL_law_419 rfl ?_
  refine x_aload_n C 0 dL_law_420 rfl ?_
  refine x_iload C 4 dL_law_421 rfl ?_
  refine x_iconst C (v := 1) dL_law_423 (by decide) ?_
  refine x_iadd C dL_law_424 ?_
  refine x_sld C G g1 e1 dL_law_425 ?_
  refine x_aload_n C 0 dL_law_426 rfl ?_
  refine x_iload C 4 dL_law_427 rfl ?_
  refine x_iconst C (v := 2) dL_law_429 (by decide) ?_
  refine x_iadd C dL_law_430 ?_
  refine x_sld C G g2 e2 dL_law_431 ?_
  refine x_aload_n C 0 dL_law_432 rfl ?_
  refine x_iload C 4 dL_law_433 rfl ?_
  refine x_iconst C (v := 3) dL_law_435 (by decide) ?_
  refine x_iadd C dL_law_436 ?_
  refine x_sld C G g3 e3 dL_law_437 ?_
  refine x_aload_n C 0 dL_law_438 rfl ?_
  refine x_iload C 4 dL_law_439 rfl ?_
  refine x_iconst C (v := 4) dL_law_441 (by decide) ?_
  refine x_iadd C dL_law_442 ?_
  refine x_sld C G g4 e4 dL_law_443 ?_
  refine x_world (w' := (wM cI cZ am M (wE cI cZ ad S' (eo ad (ad 0) (ad 7) (oc ao cJ fo []))))) (wl_EM (D := D)).1 ((wl_EM (D := D)).2 _) ?_
  refine x_ci0 (x_runV C (As := [.int a1, .int a2, .int a3, .int a4]) (rest := []) (c_X6_move hM) (cwl6_move C) 0 rfl rfl rfl (Nat.le_of_ble_eq_true rfl) dL_law_444 ⟨by show kk + 1 + 0 ≤ 1094; omega, by show jj + 6 + 0 ≤ 10825; omega⟩) ?_
  refine x_istore C (lv' := [(0, .ref b), (1, .ref (ad 32)), (2, .ref (am 0)), (3, .ref ao), (4, .int i), (5, .int 3), (6, .int vb)]) dL_law_447 (by decide) rfl ?_
  refine x_aload_n C 2 dL_law_449 rfl ?_
  refine x_ci0 (x_runV C (As := []) (rest := []) (c_X6_thrown (S := M') (r := M' 0 25) rfl) (cwl6_thrown C) 0 rfl rfl rfl (Nat.le_of_ble_eq_true rfl) dL_law_450 ⟨by show kk + 1 + 0 ≤ 1094; omega, by show jj + 6 + 0 ≤ 10825; omega⟩) ?_
  refine x_iload C 5 dL_law_453 rfl ?_
  refine x_icmp_eq C (t := 460) dL_law_455 (by decide) (fun _ => ?_) (fun c1 => absurd hth c1)
  refine x_iload C 5 dL_law_460 rfl ?_
  refine x_if_ne C (t := 477) dL_law_462 (by decide) (fun _ => ?_) (fun c1 => absurd c1 (by decide))
  refine x_goto C (t := 1689) dL_law_477 (by decide) ?_
  refine x_world (w' := (wE cI cZ ad S' (eo ad (ad 0) (ad 7) (oc ao cJ fo (wM cI cZ am M' []))))) (wl_ME (D := D)).1 ((wl_ME (D := D)).2 _) ?_
  refine x_locals (lv' := [(0, .ref b), (1, .ref (ad 32)), (2, .ref (am 0)), (3, .ref ao), (4, .int i)]) [0, 1, 2, 3, 4] rfl ?_
  exact K _ _ _ (by omega) (by omega)
set_option maxHeartbeats 8000000 in
set_option maxRecDepth 100000 in
theorem LC_delete_ok {p : Program} {l : Launch} {e : Env} {s : State} {m : MethodId} {below : List Frame} {meth : Method} {c : Code} {D : va_G} {cI cZ cJ : ClassId} {ad am : Nat → Nat} {ao b L kk jj : Nat} {xs : Nat → Int32} {S M : St} {fo : Nat → Int64} {i : Int32} {Q : State → Prop} (C : XC p room_1 s m #[Value.ref b] meth c cL_law 7 (some .boolean) RL wsL_law D (t3 cI cZ cJ)) (G : LG s b L xs) (hfl : l.stackTraces = false) (hk : kk + 1 ≤ 1094) (hj : jj + 6 ≤ 10825) {a1 : Int32} {a2 : Int32} (g1 : vp_in (i + 1) L) (e1 : xs (i + 1).toNatClampNeg = a1) (g2 : vp_in (i + 2) L) (e2 : xs (i + 2).toNatClampNeg = a2) {v : Int32} {S' : St} {M' : St} (h : X5_delete S a1 a2 = some (0, v, S')) (hM : X6_delete M a1 a2 = some (v, M')) (hth : M' 0 25 = 0) (K : ∀ (fo' : Nat → Int64) (k' j' : Nat), k' ≤ kk + 1 → j' ≤ jj + 6 → XW p l e room_1 s m #[Value.ref b] below meth c D [] 7 Q (wE cI cZ ad S' (eo ad (ad 0) (ad 7) (oc ao cJ fo' (wM cI cZ am M' [])))) k' j' 1689 [(0, .ref b), (1, .ref (ad 32)), (2, .ref (am 0)), (3, .ref ao), (4, .int i)] []) : XW p l e room_1 s m #[Value.ref b] below meth c D [] 7 Q (wE cI cZ ad S (eo ad (ad 0) (ad 7) (oc ao cJ fo (wM cI cZ am M [])))) kk jj 480 [(0, .ref b), (1, .ref (ad 32)), (2, .ref (am 0)), (3, .ref ao), (4, .int i)] [] := by
  refine x_aload_n C 1 dL_law_480 rfl ?_
  refine x_aload_n C 0 dL_law_481 rfl ?_
  refine x_iload C 4 dL_law_482 rfl ?_
  refine x_iconst C (v := 1) dL_law_484 (by decide) ?_
  refine x_iadd C dL_law_485 ?_
  refine x_sld C G g1 e1 dL_law_486 ?_
  refine x_aload_n C 0 dL_law_487 rfl ?_
  refine x_iload C 4 dL_law_488 rfl ?_
  refine x_iconst C (v := 2) dL_law_490 (by decide) ?_
  refine x_iadd C dL_law_491 ?_
  refine x_sld C G g2 e2 dL_law_492 ?_
  refine x_aload_n C 3 dL_law_493 rfl ?_
  refine x_ci (mc := 0) (ms := 0) (x_runSW C G.2.2.1 G.2.2.2 (As := [.ref (ad 32), .int a1, .int a2, .ref ao]) (rest := []) (c_L_delete_ok hfl h) (cwl_delete C) rfl (Nat.le_of_ble_eq_true rfl) dL_law_494 ⟨by show kk + 0 ≤ 1094; omega, by show jj + 0 ≤ 10825; omega⟩) ?_
  refine x_istore C (lv' := [(0, .ref b), (1, .ref (ad 32)), (2, .ref (am 0)), (3, .ref ao), (4, .int i), (5, .int 0)]) dL_law_497 (by decide) rfl ?_
  refine x_aload_n C 2 dL_law_499 rfl ?_
  refine x_aload_n C 0 dL_law_500 rfl ?_
  refine x_iload C 4 dL_law_501 rfl ?_
  refine x_iconst C (v := 1) dL_law_503 (by decide) ?_
  refine x_iadd C dL_law_504 ?_
  refine x_sld C G g1 e1 dL_law_505 ?_
  refine x_aload_n C 0 dL_law_506 rfl ?_
  refine x_iload C 4 dL_law_507 rfl ?_
  refine x_iconst C (v := 2) dL_law_509 (by decide) ?_
  refine x_iadd C dL_law_510 ?_
  refine x_sld C G g2 e2 dL_law_511 ?_
  refine x_world (w' := (wM cI cZ am M (wE cI cZ ad S' (eo ad (ad 0) (ad 7) (oc ao cJ (vp_updL fo 0 v.toInt64) []))))) (wl_EM (D := D)).1 ((wl_EM (D := D)).2 _) ?_
  refine x_ci0 (x_runV C (As := [.int a1, .int a2]) (rest := []) (c_X6_delete hM) (cwl6_delete C) 0 rfl rfl rfl (Nat.le_of_ble_eq_true rfl) dL_law_512 ⟨by show kk + 0 + 0 ≤ 1094; omega, by show jj + 0 + 0 ≤ 10825; omega⟩) ?_
  refine x_istore C (lv' := [(0, .ref b), (1, .ref (ad 32)), (2, .ref (am 0)), (3, .ref ao), (4, .int i), (5, .int 0), (6, .int v)]) dL_law_515 (by decide) rfl ?_
  refine x_aload_n C 2 dL_law_517 rfl ?_
  refine x_ci0 (x_runV C (As := []) (rest := []) (c_X6_thrown (S := M') (r := M' 0 25) rfl) (cwl6_thrown C) 0 rfl rfl rfl (Nat.le_of_ble_eq_true rfl) dL_law_518 ⟨by show kk + 0 + 0 ≤ 1094; omega, by show jj + 0 + 0 ≤ 10825; omega⟩) ?_
  refine x_iload C 5 dL_law_521 rfl ?_
  refine x_icmp_eq C (t := 528) dL_law_523 (by decide) (fun _ => ?_) (fun c1 => absurd hth c1)
  refine x_iload C 5 dL_law_528 rfl ?_
  refine x_if_ne C (t := 545) dL_law_530 (by decide) (fun c1 => absurd rfl c1) (fun _ => ?_)
  refine x_aload_n C 3 dL_law_533 rfl ?_
  refine x_iconst C (v := 0) dL_law_534 (by decide) ?_
  refine x_lald C 57 rfl (show ¬ ((0:Int32) < 0 ∨ 1 ≤ (0:Int32).toNatClampNeg) by decide) dL_law_535 ?_
  refine x_iload C 6 dL_law_536 rfl ?_
  refine x_i2l C dL_law_538 ?_
  refine x_lcmp C dL_law_539 ?_
  refine x_if_eq C (t := 545) dL_law_540 (by decide) (fun _ => ?_) (fun c1 => absurd (lg_self _ _) c1)
  refine x_goto C (t := 1689) dL_law_545 (by decide) ?_
  refine x_world (w' := (wE cI cZ ad S' (eo ad (ad 0) (ad 7) (oc ao cJ (vp_updL fo 0 v.toInt64) (wM cI cZ am M' []))))) (wl_ME (D := D)).1 ((wl_ME (D := D)).2 _) ?_
  refine x_locals (lv' := [(0, .ref b), (1, .ref (ad 32)), (2, .ref (am 0)), (3, .ref ao), (4, .int i)]) [0, 1, 2, 3, 4] rfl ?_
  exact K _ _ _ (by omega) (by omega)
set_option maxHeartbeats 8000000 in
set_option maxRecDepth 100000 in
theorem LC_delete_th0 {p : Program} {l : Launch} {e : Env} {s : State} {m : MethodId} {below : List Frame} {meth : Method} {c : Code} {D : va_G} {cI cZ cJ : ClassId} {ad am : Nat → Nat} {ao b L kk jj : Nat} {xs : Nat → Int32} {S M : St} {fo : Nat → Int64} {i : Int32} {Q : State → Prop} (C : XC p room_1 s m #[Value.ref b] meth c cL_law 7 (some .boolean) RL wsL_law D (t3 cI cZ cJ)) (G : LG s b L xs) (hfl : l.stackTraces = false) (hk : kk + 1 ≤ 1094) (hj : jj + 6 ≤ 10825) {a1 : Int32} {a2 : Int32} (g1 : vp_in (i + 1) L) (e1 : xs (i + 1).toNatClampNeg = a1) (g2 : vp_in (i + 2) L) (e2 : xs (i + 2).toNatClampNeg = a2) {v : Int32} {vb : Int32} {S' : St} {M' : St} (h : X5_delete S a1 a2 = some (1, v, S')) (hM : X6_delete M a1 a2 = some (vb, M')) (hth : M' 0 25 = 1) (K : ∀ (fo' : Nat → Int64) (k' j' : Nat), k' ≤ kk + 1 → j' ≤ jj + 6 → XW p l e room_1 s m #[Value.ref b] below meth c D [] 7 Q (wE cI cZ ad S' (eo ad (ad 0) (ad 7) (oc ao cJ fo' (wM cI cZ am M' [])))) k' j' 1689 [(0, .ref b), (1, .ref (ad 32)), (2, .ref (am 0)), (3, .ref ao), (4, .int i)] []) : XW p l e room_1 s m #[Value.ref b] below meth c D [] 7 Q (wE cI cZ ad S (eo ad (ad 0) (ad 7) (oc ao cJ fo (wM cI cZ am M [])))) kk jj 480 [(0, .ref b), (1, .ref (ad 32)), (2, .ref (am 0)), (3, .ref ao), (4, .int i)] [] := by
  refine x_aload_n C 1 dL_law_480 rfl ?_
  refine x_aload_n C 0 dL_law_481 rfl ?_
  refine x_iload C 4 dL_law_482 rfl ?_
  refine x_iconst C (v := 1) dL_law_484 (by decide) ?_
  refine x_iadd C dL_law_485 ?_
  refine x_sld C G g1 e1 dL_law_486 ?_
  refine x_aload_n C 0 dL_law_487 rfl ?_
  refine x_iload C 4 dL_law_488 rfl ?_
  refine x_iconst C (v := 2) dL_law_490 (by decide) ?_
  refine x_iadd C dL_law_491 ?_
  refine x_sld C G g2 e2 dL_law_492 ?_
  refine x_aload_n C 3 dL_law_493 rfl ?_
  refine x_ci (mc := 1) (ms := 6) (x_runSW C G.2.2.1 G.2.2.2 (As := [.ref (ad 32), .int a1, .int a2, .ref ao]) (rest := []) (c_L_delete_th0 hfl h) (cwl_delete_th C) rfl (Nat.le_of_ble_eq_true rfl) dL_law_494 ⟨by show kk + 1 ≤ 1094; omega, by show jj + 6 ≤ 10825; omega⟩) ?_
  refine x_istore C (lv' := [(0, .ref b), (1, .ref (ad 32)), (2, .ref (am 0)), (3, .ref ao), (4, .int i), (5, .int 1)]) dL_law_497 (by decide) rfl ?_
  refine x_aload_n C 2 dL_law_499 rfl ?_
  refine x_aload_n C 0 dL_law_500 rfl ?_
  refine x_iload C 4 dL_law_501 rfl ?_
  refine x_iconst C (v := 1) dL_law_503 (by decide) ?_
  refine x_iadd C dL_law_504 ?_
  refine x_sld C G g1 e1 dL_law_505 ?_
  refine x_aload_n C 0 dL_law_506 rfl ?_
  refine x_iload C 4 dL_law_507 rfl ?_
  refine x_iconst C (v := 2) dL_law_509 (by decide) ?_
  refine x_iadd C dL_law_510 ?_
  refine x_sld C G g2 e2 dL_law_511 ?_
  refine x_world (w' := (wM cI cZ am M (wE cI cZ ad S' (eo ad (ad 0) (ad 7) (oc ao cJ fo []))))) (wl_EM (D := D)).1 ((wl_EM (D := D)).2 _) ?_
  refine x_ci0 (x_runV C (As := [.int a1, .int a2]) (rest := []) (c_X6_delete hM) (cwl6_delete C) 0 rfl rfl rfl (Nat.le_of_ble_eq_true rfl) dL_law_512 ⟨by show kk + 1 + 0 ≤ 1094; omega, by show jj + 6 + 0 ≤ 10825; omega⟩) ?_
  refine x_istore C (lv' := [(0, .ref b), (1, .ref (ad 32)), (2, .ref (am 0)), (3, .ref ao), (4, .int i), (5, .int 1), (6, .int vb)]) dL_law_515 (by decide) rfl ?_
  refine x_aload_n C 2 dL_law_517 rfl ?_
  refine x_ci0 (x_runV C (As := []) (rest := []) (c_X6_thrown (S := M') (r := M' 0 25) rfl) (cwl6_thrown C) 0 rfl rfl rfl (Nat.le_of_ble_eq_true rfl) dL_law_518 ⟨by show kk + 1 + 0 ≤ 1094; omega, by show jj + 6 + 0 ≤ 10825; omega⟩) ?_
  refine x_iload C 5 dL_law_521 rfl ?_
  refine x_icmp_eq C (t := 528) dL_law_523 (by decide) (fun _ => ?_) (fun c1 => absurd hth c1)
  refine x_iload C 5 dL_law_528 rfl ?_
  refine x_if_ne C (t := 545) dL_law_530 (by decide) (fun _ => ?_) (fun c1 => absurd c1 (by decide))
  refine x_goto C (t := 1689) dL_law_545 (by decide) ?_
  refine x_world (w' := (wE cI cZ ad S' (eo ad (ad 0) (ad 7) (oc ao cJ fo (wM cI cZ am M' []))))) (wl_ME (D := D)).1 ((wl_ME (D := D)).2 _) ?_
  refine x_locals (lv' := [(0, .ref b), (1, .ref (ad 32)), (2, .ref (am 0)), (3, .ref ao), (4, .int i)]) [0, 1, 2, 3, 4] rfl ?_
  exact K _ _ _ (by omega) (by omega)
set_option maxHeartbeats 8000000 in
set_option maxRecDepth 100000 in
theorem LC_delete_th2 {p : Program} {l : Launch} {e : Env} {s : State} {m : MethodId} {below : List Frame} {meth : Method} {c : Code} {D : va_G} {cI cZ cJ : ClassId} {ad am : Nat → Nat} {ao b L kk jj : Nat} {xs : Nat → Int32} {S M : St} {fo : Nat → Int64} {i : Int32} {Q : State → Prop} (C : XC p room_1 s m #[Value.ref b] meth c cL_law 7 (some .boolean) RL wsL_law D (t3 cI cZ cJ)) (G : LG s b L xs) (hfl : l.stackTraces = false) (hk : kk + 1 ≤ 1094) (hj : jj + 6 ≤ 10825) {a1 : Int32} {a2 : Int32} (g1 : vp_in (i + 1) L) (e1 : xs (i + 1).toNatClampNeg = a1) (g2 : vp_in (i + 2) L) (e2 : xs (i + 2).toNatClampNeg = a2) {v : Int32} {vb : Int32} {S' : St} {M' : St} (h : X5_delete S a1 a2 = some (3, v, S')) (hM : X6_delete M a1 a2 = some (vb, M')) (hth : M' 0 25 = 2) (K : ∀ (fo' : Nat → Int64) (k' j' : Nat), k' ≤ kk + 1 → j' ≤ jj + 6 → XW p l e room_1 s m #[Value.ref b] below meth c D [] 7 Q (wE cI cZ ad S' (eo ad (ad 0) (ad 7) (oc ao cJ fo' (wM cI cZ am M' [])))) k' j' 1689 [(0, .ref b), (1, .ref (ad 32)), (2, .ref (am 0)), (3, .ref ao), (4, .int i)] []) : XW p l e room_1 s m #[Value.ref b] below meth c D [] 7 Q (wE cI cZ ad S (eo ad (ad 0) (ad 7) (oc ao cJ fo (wM cI cZ am M [])))) kk jj 480 [(0, .ref b), (1, .ref (ad 32)), (2, .ref (am 0)), (3, .ref ao), (4, .int i)] [] := by
  refine x_aload_n C 1 dL_law_480 rfl ?_
  refine x_aload_n C 0 dL_law_481 rfl ?_
  refine x_iload C 4 dL_law_482 rfl ?_
  refine x_iconst C (v := 1) dL_law_484 (by decide) ?_
  refine x_iadd C dL_law_485 ?_
  refine x_sld C G g1 e1 dL_law_486 ?_
  refine x_aload_n C 0 dL_law_487 rfl ?_
  refine x_iload C 4 dL_law_488 rfl ?_
  refine x_iconst C (v := 2) dL_law_490 (by decide) ?_
  refine x_iadd C dL_law_491 ?_
  refine x_sld C G g2 e2 dL_law_492 ?_
  refine x_aload_n C 3 dL_law_493 rfl ?_
  refine x_ci (mc := 1) (ms := 6) (x_runSW C G.2.2.1 G.2.2.2 (As := [.ref (ad 32), .int a1, .int a2, .ref ao]) (rest := []) (c_L_delete_th2 hfl h) (cwl_delete_th C) rfl (Nat.le_of_ble_eq_true rfl) dL_law_494 ⟨by show kk + 1 ≤ 1094; omega, by show jj + 6 ≤ 10825; omega⟩) ?_
  refine x_istore C (lv' := [(0, .ref b), (1, .ref (ad 32)), (2, .ref (am 0)), (3, .ref ao), (4, .int i), (5, .int 2)]) dL_law_497 (by decide) rfl ?_
  refine x_aload_n C 2 dL_law_499 rfl ?_
  refine x_aload_n C 0 dL_law_500 rfl ?_
  refine x_iload C 4 dL_law_501 rfl ?_
  refine x_iconst C (v := 1) dL_law_503 (by decide) ?_
  refine x_iadd C dL_law_504 ?_
  refine x_sld C G g1 e1 dL_law_505 ?_
  refine x_aload_n C 0 dL_law_506 rfl ?_
  refine x_iload C 4 dL_law_507 rfl ?_
  refine x_iconst C (v := 2) dL_law_509 (by decide) ?_
  refine x_iadd C dL_law_510 ?_
  refine x_sld C G g2 e2 dL_law_511 ?_
  refine x_world (w' := (wM cI cZ am M (wE cI cZ ad S' (eo ad (ad 0) (ad 7) (oc ao cJ fo []))))) (wl_EM (D := D)).1 ((wl_EM (D := D)).2 _) ?_
  refine x_ci0 (x_runV C (As := [.int a1, .int a2]) (rest := []) (c_X6_delete hM) (cwl6_delete C) 0 rfl rfl rfl (Nat.le_of_ble_eq_true rfl) dL_law_512 ⟨by show kk + 1 + 0 ≤ 1094; omega, by show jj + 6 + 0 ≤ 10825; omega⟩) ?_
  refine x_istore C (lv' := [(0, .ref b), (1, .ref (ad 32)), (2, .ref (am 0)), (3, .ref ao), (4, .int i), (5, .int 2), (6, .int vb)]) dL_law_515 (by decide) rfl ?_
  refine x_aload_n C 2 dL_law_517 rfl ?_
  refine x_ci0 (x_runV C (As := []) (rest := []) (c_X6_thrown (S := M') (r := M' 0 25) rfl) (cwl6_thrown C) 0 rfl rfl rfl (Nat.le_of_ble_eq_true rfl) dL_law_518 ⟨by show kk + 1 + 0 ≤ 1094; omega, by show jj + 6 + 0 ≤ 10825; omega⟩) ?_
  refine x_iload C 5 dL_law_521 rfl ?_
  refine x_icmp_eq C (t := 528) dL_law_523 (by decide) (fun _ => ?_) (fun c1 => absurd hth c1)
  refine x_iload C 5 dL_law_528 rfl ?_
  refine x_if_ne C (t := 545) dL_law_530 (by decide) (fun _ => ?_) (fun c1 => absurd c1 (by decide))
  refine x_goto C (t := 1689) dL_law_545 (by decide) ?_
  refine x_world (w' := (wE cI cZ ad S' (eo ad (ad 0) (ad 7) (oc ao cJ fo (wM cI cZ am M' []))))) (wl_ME (D := D)).1 ((wl_ME (D := D)).2 _) ?_
  refine x_locals (lv' := [(0, .ref b), (1, .ref (ad 32)), (2, .ref (am 0)), (3, .ref ao), (4, .int i)]) [0, 1, 2, 3, 4] rfl ?_
  exact K _ _ _ (by omega) (by omega)
set_option maxHeartbeats 8000000 in
set_option maxRecDepth 100000 in
theorem LC_carry_ok {p : Program} {l : Launch} {e : Env} {s : State} {m : MethodId} {below : List Frame} {meth : Method} {c : Code} {D : va_G} {cI cZ cJ : ClassId} {ad am : Nat → Nat} {ao b L kk jj : Nat} {xs : Nat → Int32} {S M : St} {fo : Nat → Int64} {i : Int32} {Q : State → Prop} (C : XC p room_1 s m #[Value.ref b] meth c cL_law 7 (some .boolean) RL wsL_law D (t3 cI cZ cJ)) (G : LG s b L xs) (hfl : l.stackTraces = false) (hk : kk + 1 ≤ 1094) (hj : jj + 6 ≤ 10825) {a1 : Int32} {a2 : Int32} (g1 : vp_in (i + 1) L) (e1 : xs (i + 1).toNatClampNeg = a1) (g2 : vp_in (i + 2) L) (e2 : xs (i + 2).toNatClampNeg = a2) {v : Int32} {S' : St} {M' : St} (h : X5_carry S a1 a2 = some (0, v, S')) (hM : X6_carry M a1 a2 = some (v, M')) (hth : M' 0 25 = 0) (K : ∀ (fo' : Nat → Int64) (k' j' : Nat), k' ≤ kk + 1 → j' ≤ jj + 6 → XW p l e room_1 s m #[Value.ref b] below meth c D [] 7 Q (wE cI cZ ad S' (eo ad (ad 0) (ad 7) (oc ao cJ fo' (wM cI cZ am M' [])))) k' j' 1689 [(0, .ref b), (1, .ref (ad 32)), (2, .ref (am 0)), (3, .ref ao), (4, .int i)] []) : XW p l e room_1 s m #[Value.ref b] below meth c D [] 7 Q (wE cI cZ ad S (eo ad (ad 0) (ad 7) (oc ao cJ fo (wM cI cZ am M [])))) kk jj 548 [(0, .ref b), (1, .ref (ad 32)), (2, .ref (am 0)), (3, .ref ao), (4, .int i)] [] := by
  refine x_aload_n C 1 dL_law_548 rfl ?_
  refine x_aload_n C 0 dL_law_549 rfl ?_
  refine x_iload C 4 dL_law_550 rfl ?_
  refine x_iconst C (v := 1) dL_law_552 (by decide) ?_
  refine x_iadd C dL_law_553 ?_
  refine x_sld C G g1 e1 dL_law_554 ?_
  refine x_aload_n C 0 dL_law_555 rfl ?_
  refine x_iload C 4 dL_law_556 rfl ?_
  refine x_iconst C (v := 2) dL_law_558 (by decide) ?_
  refine x_iadd C dL_law_559 ?_
  refine x_sld C G g2 e2 dL_law_560 ?_
  refine x_aload_n C 3 dL_law_561 rfl ?_
  refine x_ci (mc := 0) (ms := 0) (x_runSW C G.2.2.1 G.2.2.2 (As := [.ref (ad 32), .int a1, .int a2, .ref ao]) (rest := []) (c_L_carry_ok hfl h) (cwl_carry C) rfl (Nat.le_of_ble_eq_true rfl) dL_law_562 ⟨by show kk + 0 ≤ 1094; omega, by show jj + 0 ≤ 10825; omega⟩) ?_
  refine x_istore C (lv' := [(0, .ref b), (1, .ref (ad 32)), (2, .ref (am 0)), (3, .ref ao), (4, .int i), (5, .int 0)]) dL_law_565 (by decide) rfl ?_
  refine x_aload_n C 2 dL_law_567 rfl ?_
  refine x_aload_n C 0 dL_law_568 rfl ?_
  refine x_iload C 4 dL_law_569 rfl ?_
  refine x_iconst C (v := 1) dL_law_571 (by decide) ?_
  refine x_iadd C dL_law_572 ?_
  refine x_sld C G g1 e1 dL_law_573 ?_
  refine x_aload_n C 0 dL_law_574 rfl ?_
  refine x_iload C 4 dL_law_575 rfl ?_
  refine x_iconst C (v := 2) dL_law_577 (by decide) ?_
  refine x_iadd C dL_law_578 ?_
  refine x_sld C G g2 e2 dL_law_579 ?_
  refine x_world (w' := (wM cI cZ am M (wE cI cZ ad S' (eo ad (ad 0) (ad 7) (oc ao cJ (vp_updL fo 0 (if v = 0 then 0 else 1)) []))))) (wl_EM (D := D)).1 ((wl_EM (D := D)).2 _) ?_
  refine x_ci0 (x_runV C (As := [.int a1, .int a2]) (rest := []) (c_X6_carry hM) (cwl6_carry C) 0 rfl rfl rfl (Nat.le_of_ble_eq_true rfl) dL_law_580 ⟨by show kk + 0 + 0 ≤ 1094; omega, by show jj + 0 + 0 ≤ 10825; omega⟩) ?_
  refine x_istore C (lv' := [(0, .ref b), (1, .ref (ad 32)), (2, .ref (am 0)), (3, .ref ao), (4, .int i), (5, .int 0), (6, .int v)]) dL_law_583 (by decide) rfl ?_
  refine x_aload_n C 2 dL_law_585 rfl ?_
  refine x_ci0 (x_runV C (As := []) (rest := []) (c_X6_thrown (S := M') (r := M' 0 25) rfl) (cwl6_thrown C) 0 rfl rfl rfl (Nat.le_of_ble_eq_true rfl) dL_law_586 ⟨by show kk + 0 + 0 ≤ 1094; omega, by show jj + 0 + 0 ≤ 10825; omega⟩) ?_
  refine x_iload C 5 dL_law_589 rfl ?_
  refine x_icmp_eq C (t := 596) dL_law_591 (by decide) (fun _ => ?_) (fun c1 => absurd hth c1)
  refine x_iload C 5 dL_law_596 rfl ?_
  refine x_if_ne C (t := 620) dL_law_598 (by decide) (fun c1 => absurd rfl c1) (fun _ => ?_)
  refine x_aload_n C 3 dL_law_601 rfl ?_
  refine x_iconst C (v := 0) dL_law_602 (by decide) ?_
  refine x_lald C 57 rfl (show ¬ ((0:Int32) < 0 ∨ 1 ≤ (0:Int32).toNatClampNeg) by decide) dL_law_603 ?_
  refine x_iload C 6 dL_law_604 rfl ?_
  refine x_if_eq C (t := 613) dL_law_606 (by decide) (fun cb => ?_) (fun cb => ?_)
  · refine x_lconst C (v := 0) dL_law_613 (by decide) ?_
    refine x_lcmp C dL_law_614 ?_
    refine x_if_eq C (t := 620) dL_law_615 (by decide) (fun _ => ?_) (fun c1 => absurd (lg_b0 cb) c1)
    refine x_goto C (t := 1689) dL_law_620 (by decide) ?_
    refine x_world (w' := (wE cI cZ ad S' (eo ad (ad 0) (ad 7) (oc ao cJ (vp_updL fo 0 (if v = 0 then 0 else 1)) (wM cI cZ am M' []))))) (wl_ME (D := D)).1 ((wl_ME (D := D)).2 _) ?_
    refine x_locals (lv' := [(0, .ref b), (1, .ref (ad 32)), (2, .ref (am 0)), (3, .ref ao), (4, .int i)]) [0, 1, 2, 3, 4] rfl ?_
    exact K _ _ _ (by omega) (by omega)
  · refine x_lconst C (v := 1) dL_law_609 (by decide) ?_
    refine x_goto C (t := 614) dL_law_610 (by decide) ?_
    refine x_lcmp C dL_law_614 ?_
    refine x_if_eq C (t := 620) dL_law_615 (by decide) (fun _ => ?_) (fun c1 => absurd (lg_b1 cb) c1)
    refine x_goto C (t := 1689) dL_law_620 (by decide) ?_
    refine x_world (w' := (wE cI cZ ad S' (eo ad (ad 0) (ad 7) (oc ao cJ (vp_updL fo 0 (if v = 0 then 0 else 1)) (wM cI cZ am M' []))))) (wl_ME (D := D)).1 ((wl_ME (D := D)).2 _) ?_
    refine x_locals (lv' := [(0, .ref b), (1, .ref (ad 32)), (2, .ref (am 0)), (3, .ref ao), (4, .int i)]) [0, 1, 2, 3, 4] rfl ?_
    exact K _ _ _ (by omega) (by omega)
set_option maxHeartbeats 8000000 in
set_option maxRecDepth 100000 in
theorem LC_carry_th0 {p : Program} {l : Launch} {e : Env} {s : State} {m : MethodId} {below : List Frame} {meth : Method} {c : Code} {D : va_G} {cI cZ cJ : ClassId} {ad am : Nat → Nat} {ao b L kk jj : Nat} {xs : Nat → Int32} {S M : St} {fo : Nat → Int64} {i : Int32} {Q : State → Prop} (C : XC p room_1 s m #[Value.ref b] meth c cL_law 7 (some .boolean) RL wsL_law D (t3 cI cZ cJ)) (G : LG s b L xs) (hfl : l.stackTraces = false) (hk : kk + 1 ≤ 1094) (hj : jj + 6 ≤ 10825) {a1 : Int32} {a2 : Int32} (g1 : vp_in (i + 1) L) (e1 : xs (i + 1).toNatClampNeg = a1) (g2 : vp_in (i + 2) L) (e2 : xs (i + 2).toNatClampNeg = a2) {v : Int32} {vb : Int32} {S' : St} {M' : St} (h : X5_carry S a1 a2 = some (1, v, S')) (hM : X6_carry M a1 a2 = some (vb, M')) (hth : M' 0 25 = 1) (K : ∀ (fo' : Nat → Int64) (k' j' : Nat), k' ≤ kk + 1 → j' ≤ jj + 6 → XW p l e room_1 s m #[Value.ref b] below meth c D [] 7 Q (wE cI cZ ad S' (eo ad (ad 0) (ad 7) (oc ao cJ fo' (wM cI cZ am M' [])))) k' j' 1689 [(0, .ref b), (1, .ref (ad 32)), (2, .ref (am 0)), (3, .ref ao), (4, .int i)] []) : XW p l e room_1 s m #[Value.ref b] below meth c D [] 7 Q (wE cI cZ ad S (eo ad (ad 0) (ad 7) (oc ao cJ fo (wM cI cZ am M [])))) kk jj 548 [(0, .ref b), (1, .ref (ad 32)), (2, .ref (am 0)), (3, .ref ao), (4, .int i)] [] := by
  refine x_aload_n C 1 dL_law_548 rfl ?_
  refine x_aload_n C 0 dL_law_549 rfl ?_
  refine x_iload C 4 dL_law_550 rfl ?_
  refine x_iconst C (v := 1) dL_law_552 (by decide) ?_
  refine x_iadd C dL_law_553 ?_
  refine x_sld C G g1 e1 dL_law_554 ?_
  refine x_aload_n C 0 dL_law_555 rfl ?_
  refine x_iload C 4 dL_law_556 rfl ?_
  refine x_iconst C (v := 2) dL_law_558 (by decide) ?_
  refine x_iadd C dL_law_559 ?_
  refine x_sld C G g2 e2 dL_law_560 ?_
  refine x_aload_n C 3 dL_law_561 rfl ?_
  refine x_ci (mc := 1) (ms := 6) (x_runSW C G.2.2.1 G.2.2.2 (As := [.ref (ad 32), .int a1, .int a2, .ref ao]) (rest := []) (c_L_carry_th0 hfl h) (cwl_carry_th C) rfl (Nat.le_of_ble_eq_true rfl) dL_law_562 ⟨by show kk + 1 ≤ 1094; omega, by show jj + 6 ≤ 10825; omega⟩) ?_
  refine x_istore C (lv' := [(0, .ref b), (1, .ref (ad 32)), (2, .ref (am 0)), (3, .ref ao), (4, .int i), (5, .int 1)]) dL_law_565 (by decide) rfl ?_
  refine x_aload_n C 2 dL_law_567 rfl ?_
  refine x_aload_n C 0 dL_law_568 rfl ?_
  refine x_iload C 4 dL_law_569 rfl ?_
  refine x_iconst C (v := 1) dL_law_571 (by decide) ?_
  refine x_iadd C dL_law_572 ?_
  refine x_sld C G g1 e1 dL_law_573 ?_
  refine x_aload_n C 0 dL_law_574 rfl ?_
  refine x_iload C 4 dL_law_575 rfl ?_
  refine x_iconst C (v := 2) dL_law_577 (by decide) ?_
  refine x_iadd C dL_law_578 ?_
  refine x_sld C G g2 e2 dL_law_579 ?_
  refine x_world (w' := (wM cI cZ am M (wE cI cZ ad S' (eo ad (ad 0) (ad 7) (oc ao cJ fo []))))) (wl_EM (D := D)).1 ((wl_EM (D := D)).2 _) ?_
  refine x_ci0 (x_runV C (As := [.int a1, .int a2]) (rest := []) (c_X6_carry hM) (cwl6_carry C) 0 rfl rfl rfl (Nat.le_of_ble_eq_true rfl) dL_law_580 ⟨by show kk + 1 + 0 ≤ 1094; omega, by show jj + 6 + 0 ≤ 10825; omega⟩) ?_
  refine x_istore C (lv' := [(0, .ref b), (1, .ref (ad 32)), (2, .ref (am 0)), (3, .ref ao), (4, .int i), (5, .int 1), (6, .int vb)]) dL_law_583 (by decide) rfl ?_
  refine x_aload_n C 2 dL_law_585 rfl ?_
  refine x_ci0 (x_runV C (As := []) (rest := []) (c_X6_thrown (S := M') (r := M' 0 25) rfl) (cwl6_thrown C) 0 rfl rfl rfl (Nat.le_of_ble_eq_true rfl) dL_law_586 ⟨by show kk + 1 + 0 ≤ 1094; omega, by show jj + 6 + 0 ≤ 10825; omega⟩) ?_
  refine x_iload C 5 dL_law_589 rfl ?_
  refine x_icmp_eq C (t := 596) dL_law_591 (by decide) (fun _ => ?_) (fun c1 => absurd hth c1)
  refine x_iload C 5 dL_law_596 rfl ?_
  refine x_if_ne C (t := 620) dL_law_598 (by decide) (fun _ => ?_) (fun c1 => absurd c1 (by decide))
  refine x_goto C (t := 1689) dL_law_620 (by decide) ?_
  refine x_world (w' := (wE cI cZ ad S' (eo ad (ad 0) (ad 7) (oc ao cJ fo (wM cI cZ am M' []))))) (wl_ME (D := D)).1 ((wl_ME (D := D)).2 _) ?_
  refine x_locals (lv' := [(0, .ref b), (1, .ref (ad 32)), (2, .ref (am 0)), (3, .ref ao), (4, .int i)]) [0, 1, 2, 3, 4] rfl ?_
  exact K _ _ _ (by omega) (by omega)
set_option maxHeartbeats 8000000 in
set_option maxRecDepth 100000 in
theorem LC_changes_ok {p : Program} {l : Launch} {e : Env} {s : State} {m : MethodId} {below : List Frame} {meth : Method} {c : Code} {D : va_G} {cI cZ cJ : ClassId} {ad am : Nat → Nat} {ao b L kk jj : Nat} {xs : Nat → Int32} {S M : St} {fo : Nat → Int64} {i : Int32} {Q : State → Prop} (C : XC p room_1 s m #[Value.ref b] meth c cL_law 7 (some .boolean) RL wsL_law D (t3 cI cZ cJ)) (G : LG s b L xs) (hfl : l.stackTraces = false) (hk : kk + 1 ≤ 1094) (hj : jj + 6 ≤ 10825) {v : Int32} {M' : St} (h : X5_changes S = some v) (hM : X6_changes M = some (v, M')) (K : ∀ (fo' : Nat → Int64) (k' j' : Nat), k' ≤ kk + 1 → j' ≤ jj + 6 → XW p l e room_1 s m #[Value.ref b] below meth c D [] 7 Q (wE cI cZ ad S (eo ad (ad 0) (ad 7) (oc ao cJ fo' (wM cI cZ am M' [])))) k' j' 1689 [(0, .ref b), (1, .ref (ad 32)), (2, .ref (am 0)), (3, .ref ao), (4, .int i)] []) : XW p l e room_1 s m #[Value.ref b] below meth c D [] 7 Q (wE cI cZ ad S (eo ad (ad 0) (ad 7) (oc ao cJ fo (wM cI cZ am M [])))) kk jj 623 [(0, .ref b), (1, .ref (ad 32)), (2, .ref (am 0)), (3, .ref ao), (4, .int i)] [] := by
  refine x_aload_n C 1 dL_law_623 rfl ?_
  refine x_ci0 (x_runV C (As := []) (rest := []) (c_X5_changes h) (cwl5_changes C) 32 rfl rfl rfl (Nat.le_of_ble_eq_true rfl) dL_law_624 ⟨by show kk + 0 ≤ 1094; omega, by show jj + 0 ≤ 10825; omega⟩) ?_
  refine x_aload_n C 2 dL_law_627 rfl ?_
  refine x_world (w' := (wM cI cZ am M (wE cI cZ ad S (eo ad (ad 0) (ad 7) (oc ao cJ fo []))))) (wl_EM (D := D)).1 ((wl_EM (D := D)).2 _) ?_
  refine x_ci0 (x_runV C (As := []) (rest := [.int v]) (c_X6_changes hM) (cwl6_changes C) 0 rfl rfl rfl (Nat.le_of_ble_eq_true rfl) dL_law_628 ⟨by show kk + 0 ≤ 1094; omega, by show jj + 0 ≤ 10825; omega⟩) ?_
  refine x_icmp_eq C (t := 1689) dL_law_631 (by decide) (fun _ => ?_) (fun c1 => absurd rfl c1)
  refine x_world (w' := (wE cI cZ ad S (eo ad (ad 0) (ad 7) (oc ao cJ fo (wM cI cZ am M' []))))) (wl_ME (D := D)).1 ((wl_ME (D := D)).2 _) ?_
  exact K _ _ _ (by omega) (by omega)
set_option maxHeartbeats 8000000 in
set_option maxRecDepth 100000 in
theorem LC_timeOf_ok {p : Program} {l : Launch} {e : Env} {s : State} {m : MethodId} {below : List Frame} {meth : Method} {c : Code} {D : va_G} {cI cZ cJ : ClassId} {ad am : Nat → Nat} {ao b L kk jj : Nat} {xs : Nat → Int32} {S M : St} {fo : Nat → Int64} {i : Int32} {Q : State → Prop} (C : XC p room_1 s m #[Value.ref b] meth c cL_law 7 (some .boolean) RL wsL_law D (t3 cI cZ cJ)) (G : LG s b L xs) (hfl : l.stackTraces = false) (hk : kk + 1 ≤ 1094) (hj : jj + 6 ≤ 10825) {a1 : Int32} (g1 : vp_in (i + 1) L) (e1 : xs (i + 1).toNatClampNeg = a1) {v : Int32} {M' : St} (h : X5_timeOf S a1 = some (0, v)) (hM : X6_timeOf M a1 = some (v, M')) (hth : M' 0 25 = 0) (K : ∀ (fo' : Nat → Int64) (k' j' : Nat), k' ≤ kk + 1 → j' ≤ jj + 6 → XW p l e room_1 s m #[Value.ref b] below meth c D [] 7 Q (wE cI cZ ad S (eo ad (ad 0) (ad 7) (oc ao cJ fo' (wM cI cZ am M' [])))) k' j' 1689 [(0, .ref b), (1, .ref (ad 32)), (2, .ref (am 0)), (3, .ref ao), (4, .int i)] []) : XW p l e room_1 s m #[Value.ref b] below meth c D [] 7 Q (wE cI cZ ad S (eo ad (ad 0) (ad 7) (oc ao cJ fo (wM cI cZ am M [])))) kk jj 636 [(0, .ref b), (1, .ref (ad 32)), (2, .ref (am 0)), (3, .ref ao), (4, .int i)] [] := by
  refine x_aload_n C 1 dL_law_636 rfl ?_
  refine x_aload_n C 0 dL_law_637 rfl ?_
  refine x_iload C 4 dL_law_638 rfl ?_
  refine x_iconst C (v := 1) dL_law_640 (by decide) ?_
  refine x_iadd C dL_law_641 ?_
  refine x_sld C G g1 e1 dL_law_642 ?_
  refine x_aload_n C 3 dL_law_643 rfl ?_
  refine x_ci (mc := 0) (ms := 0) (x_runSW C G.2.2.1 G.2.2.2 (As := [.ref (ad 32), .int a1, .ref ao]) (rest := []) (c_L_timeOf_ok hfl h) (cwl_timeOf C) rfl (Nat.le_of_ble_eq_true rfl) dL_law_644 ⟨by show kk + 0 ≤ 1094; omega, by show jj + 0 ≤ 10825; omega⟩) ?_
  refine x_istore C (lv' := [(0, .ref b), (1, .ref (ad 32)), (2, .ref (am 0)), (3, .ref ao), (4, .int i), (5, .int 0)]) dL_law_647 (by decide) rfl ?_
  refine x_aload_n C 2 dL_law_649 rfl ?_
  refine x_aload_n C 0 dL_law_650 rfl ?_
  refine x_iload C 4 dL_law_651 rfl ?_
  refine x_iconst C (v := 1) dL_law_653 (by decide) ?_
  refine x_iadd C dL_law_654 ?_
  refine x_sld C G g1 e1 dL_law_655 ?_
  refine x_world (w' := (wM cI cZ am M (wE cI cZ ad S (eo ad (ad 0) (ad 7) (oc ao cJ (vp_updL fo 0 v.toInt64) []))))) (wl_EM (D := D)).1 ((wl_EM (D := D)).2 _) ?_
  refine x_ci0 (x_runV C (As := [.int a1]) (rest := []) (c_X6_timeOf hM) (cwl6_timeOf C) 0 rfl rfl rfl (Nat.le_of_ble_eq_true rfl) dL_law_656 ⟨by show kk + 0 + 0 ≤ 1094; omega, by show jj + 0 + 0 ≤ 10825; omega⟩) ?_
  refine x_istore C (lv' := [(0, .ref b), (1, .ref (ad 32)), (2, .ref (am 0)), (3, .ref ao), (4, .int i), (5, .int 0), (6, .int v)]) dL_law_659 (by decide) rfl ?_
  refine x_aload_n C 2 dL_law_661 rfl ?_
  refine x_ci0 (x_runV C (As := []) (rest := []) (c_X6_thrown (S := M') (r := M' 0 25) rfl) (cwl6_thrown C) 0 rfl rfl rfl (Nat.le_of_ble_eq_true rfl) dL_law_662 ⟨by show kk + 0 + 0 ≤ 1094; omega, by show jj + 0 + 0 ≤ 10825; omega⟩) ?_
  refine x_iload C 5 dL_law_665 rfl ?_
  refine x_icmp_eq C (t := 672) dL_law_667 (by decide) (fun _ => ?_) (fun c1 => absurd hth c1)
  refine x_iload C 5 dL_law_672 rfl ?_
  refine x_if_ne C (t := 689) dL_law_674 (by decide) (fun c1 => absurd rfl c1) (fun _ => ?_)
  refine x_aload_n C 3 dL_law_677 rfl ?_
  refine x_iconst C (v := 0) dL_law_678 (by decide) ?_
  refine x_lald C 57 rfl (show ¬ ((0:Int32) < 0 ∨ 1 ≤ (0:Int32).toNatClampNeg) by decide) dL_law_679 ?_
  refine x_iload C 6 dL_law_680 rfl ?_
  refine x_i2l C dL_law_682 ?_
  refine x_lcmp C dL_law_683 ?_
  refine x_if_eq C (t := 689) dL_law_684 (by decide) (fun _ => ?_) (fun c1 => absurd (lg_self _ _) c1)
  refine x_goto C (t := 1689) dL_law_689 (by decide) ?_
  refine x_world (w' := (wE cI cZ ad S (eo ad (ad 0) (ad 7) (oc ao cJ (vp_updL fo 0 v.toInt64) (wM cI cZ am M' []))))) (wl_ME (D := D)).1 ((wl_ME (D := D)).2 _) ?_
  refine x_locals (lv' := [(0, .ref b), (1, .ref (ad 32)), (2, .ref (am 0)), (3, .ref ao), (4, .int i)]) [0, 1, 2, 3, 4] rfl ?_
  exact K _ _ _ (by omega) (by omega)
set_option maxHeartbeats 8000000 in
set_option maxRecDepth 100000 in
theorem LC_timeOf_th0 {p : Program} {l : Launch} {e : Env} {s : State} {m : MethodId} {below : List Frame} {meth : Method} {c : Code} {D : va_G} {cI cZ cJ : ClassId} {ad am : Nat → Nat} {ao b L kk jj : Nat} {xs : Nat → Int32} {S M : St} {fo : Nat → Int64} {i : Int32} {Q : State → Prop} (C : XC p room_1 s m #[Value.ref b] meth c cL_law 7 (some .boolean) RL wsL_law D (t3 cI cZ cJ)) (G : LG s b L xs) (hfl : l.stackTraces = false) (hk : kk + 1 ≤ 1094) (hj : jj + 6 ≤ 10825) {a1 : Int32} (g1 : vp_in (i + 1) L) (e1 : xs (i + 1).toNatClampNeg = a1) {v : Int32} {vb : Int32} {M' : St} (h : X5_timeOf S a1 = some (1, v)) (hM : X6_timeOf M a1 = some (vb, M')) (hth : M' 0 25 = 1) (K : ∀ (fo' : Nat → Int64) (k' j' : Nat), k' ≤ kk + 1 → j' ≤ jj + 6 → XW p l e room_1 s m #[Value.ref b] below meth c D [] 7 Q (wE cI cZ ad S (eo ad (ad 0) (ad 7) (oc ao cJ fo' (wM cI cZ am M' [])))) k' j' 1689 [(0, .ref b), (1, .ref (ad 32)), (2, .ref (am 0)), (3, .ref ao), (4, .int i)] []) : XW p l e room_1 s m #[Value.ref b] below meth c D [] 7 Q (wE cI cZ ad S (eo ad (ad 0) (ad 7) (oc ao cJ fo (wM cI cZ am M [])))) kk jj 636 [(0, .ref b), (1, .ref (ad 32)), (2, .ref (am 0)), (3, .ref ao), (4, .int i)] [] := by
  refine x_aload_n C 1 dL_law_636 rfl ?_
  refine x_aload_n C 0 dL_law_637 rfl ?_
  refine x_iload C 4 dL_law_638 rfl ?_
  refine x_iconst C (v := 1) dL_law_640 (by decide) ?_
  refine x_iadd C dL_law_641 ?_
  refine x_sld C G g1 e1 dL_law_642 ?_
  refine x_aload_n C 3 dL_law_643 rfl ?_
  refine x_ci (mc := 1) (ms := 6) (x_runSW C G.2.2.1 G.2.2.2 (As := [.ref (ad 32), .int a1, .ref ao]) (rest := []) (c_L_timeOf_th0 hfl h) (cwl_timeOf_th C) rfl (Nat.le_of_ble_eq_true rfl) dL_law_644 ⟨by show kk + 1 ≤ 1094; omega, by show jj + 6 ≤ 10825; omega⟩) ?_
  refine x_istore C (lv' := [(0, .ref b), (1, .ref (ad 32)), (2, .ref (am 0)), (3, .ref ao), (4, .int i), (5, .int 1)]) dL_law_647 (by decide) rfl ?_
  refine x_aload_n C 2 dL_law_649 rfl ?_
  refine x_aload_n C 0 dL_law_650 rfl ?_
  refine x_iload C 4 dL_law_651 rfl ?_
  refine x_iconst C (v := 1) dL_law_653 (by decide) ?_
  refine x_iadd C dL_law_654 ?_
  refine x_sld C G g1 e1 dL_law_655 ?_
  refine x_world (w' := (wM cI cZ am M (wE cI cZ ad S (eo ad (ad 0) (ad 7) (oc ao cJ fo []))))) (wl_EM (D := D)).1 ((wl_EM (D := D)).2 _) ?_
  refine x_ci0 (x_runV C (As := [.int a1]) (rest := []) (c_X6_timeOf hM) (cwl6_timeOf C) 0 rfl rfl rfl (Nat.le_of_ble_eq_true rfl) dL_law_656 ⟨by show kk + 1 + 0 ≤ 1094; omega, by show jj + 6 + 0 ≤ 10825; omega⟩) ?_
  refine x_istore C (lv' := [(0, .ref b), (1, .ref (ad 32)), (2, .ref (am 0)), (3, .ref ao), (4, .int i), (5, .int 1), (6, .int vb)]) dL_law_659 (by decide) rfl ?_
  refine x_aload_n C 2 dL_law_661 rfl ?_
  refine x_ci0 (x_runV C (As := []) (rest := []) (c_X6_thrown (S := M') (r := M' 0 25) rfl) (cwl6_thrown C) 0 rfl rfl rfl (Nat.le_of_ble_eq_true rfl) dL_law_662 ⟨by show kk + 1 + 0 ≤ 1094; omega, by show jj + 6 + 0 ≤ 10825; omega⟩) ?_
  refine x_iload C 5 dL_law_665 rfl ?_
  refine x_icmp_eq C (t := 672) dL_law_667 (by decide) (fun _ => ?_) (fun c1 => absurd hth c1)
  refine x_iload C 5 dL_law_672 rfl ?_
  refine x_if_ne C (t := 689) dL_law_674 (by decide) (fun _ => ?_) (fun c1 => absurd c1 (by decide))
  refine x_goto C (t := 1689) dL_law_689 (by decide) ?_
  refine x_world (w' := (wE cI cZ ad S (eo ad (ad 0) (ad 7) (oc ao cJ fo (wM cI cZ am M' []))))) (wl_ME (D := D)).1 ((wl_ME (D := D)).2 _) ?_
  refine x_locals (lv' := [(0, .ref b), (1, .ref (ad 32)), (2, .ref (am 0)), (3, .ref ao), (4, .int i)]) [0, 1, 2, 3, 4] rfl ?_
  exact K _ _ _ (by omega) (by omega)
set_option maxHeartbeats 8000000 in
set_option maxRecDepth 100000 in
theorem LC_entries_ok {p : Program} {l : Launch} {e : Env} {s : State} {m : MethodId} {below : List Frame} {meth : Method} {c : Code} {D : va_G} {cI cZ cJ : ClassId} {ad am : Nat → Nat} {ao b L kk jj : Nat} {xs : Nat → Int32} {S M : St} {fo : Nat → Int64} {i : Int32} {Q : State → Prop} (C : XC p room_1 s m #[Value.ref b] meth c cL_law 7 (some .boolean) RL wsL_law D (t3 cI cZ cJ)) (G : LG s b L xs) (hfl : l.stackTraces = false) (hk : kk + 1 ≤ 1094) (hj : jj + 6 ≤ 10825) {a1 : Int32} (g1 : vp_in (i + 1) L) (e1 : xs (i + 1).toNatClampNeg = a1) {v : Int32} {M' : St} (h : X5_entries S a1 = some (0, v)) (hM : X6_entries M a1 = some (v, M')) (hth : M' 0 25 = 0) (K : ∀ (fo' : Nat → Int64) (k' j' : Nat), k' ≤ kk + 1 → j' ≤ jj + 6 → XW p l e room_1 s m #[Value.ref b] below meth c D [] 7 Q (wE cI cZ ad S (eo ad (ad 0) (ad 7) (oc ao cJ fo' (wM cI cZ am M' [])))) k' j' 1689 [(0, .ref b), (1, .ref (ad 32)), (2, .ref (am 0)), (3, .ref ao), (4, .int i)] []) : XW p l e room_1 s m #[Value.ref b] below meth c D [] 7 Q (wE cI cZ ad S (eo ad (ad 0) (ad 7) (oc ao cJ fo (wM cI cZ am M [])))) kk jj 692 [(0, .ref b), (1, .ref (ad 32)), (2, .ref (am 0)), (3, .ref ao), (4, .int i)] [] := by
  refine x_aload_n C 1 dL_law_692 rfl ?_
  refine x_aload_n C 0 dL_law_693 rfl ?_
  refine x_iload C 4 dL_law_694 rfl ?_
  refine x_iconst C (v := 1) dL_law_696 (by decide) ?_
  refine x_iadd C dL_law_697 ?_
  refine x_sld C G g1 e1 dL_law_698 ?_
  refine x_aload_n C 3 dL_law_699 rfl ?_
  refine x_ci (mc := 0) (ms := 0) (x_runSW C G.2.2.1 G.2.2.2 (As := [.ref (ad 32), .int a1, .ref ao]) (rest := []) (c_L_entries_ok hfl h) (cwl_entries C) rfl (Nat.le_of_ble_eq_true rfl) dL_law_700 ⟨by show kk + 0 ≤ 1094; omega, by show jj + 0 ≤ 10825; omega⟩) ?_
  refine x_istore C (lv' := [(0, .ref b), (1, .ref (ad 32)), (2, .ref (am 0)), (3, .ref ao), (4, .int i), (5, .int 0)]) dL_law_703 (by decide) rfl ?_
  refine x_aload_n C 2 dL_law_705 rfl ?_
  refine x_aload_n C 0 dL_law_706 rfl ?_
  refine x_iload C 4 dL_law_707 rfl ?_
  refine x_iconst C (v := 1) dL_law_709 (by decide) ?_
  refine x_iadd C dL_law_710 ?_
  refine x_sld C G g1 e1 dL_law_711 ?_
  refine x_world (w' := (wM cI cZ am M (wE cI cZ ad S (eo ad (ad 0) (ad 7) (oc ao cJ (vp_updL fo 0 v.toInt64) []))))) (wl_EM (D := D)).1 ((wl_EM (D := D)).2 _) ?_
  refine x_ci0 (x_runV C (As := [.int a1]) (rest := []) (c_X6_entries hM) (cwl6_entries C) 0 rfl rfl rfl (Nat.le_of_ble_eq_true rfl) dL_law_712 ⟨by show kk + 0 + 0 ≤ 1094; omega, by show jj + 0 + 0 ≤ 10825; omega⟩) ?_
  refine x_istore C (lv' := [(0, .ref b), (1, .ref (ad 32)), (2, .ref (am 0)), (3, .ref ao), (4, .int i), (5, .int 0), (6, .int v)]) dL_law_715 (by decide) rfl ?_
  refine x_aload_n C 2 dL_law_717 rfl ?_
  refine x_ci0 (x_runV C (As := []) (rest := []) (c_X6_thrown (S := M') (r := M' 0 25) rfl) (cwl6_thrown C) 0 rfl rfl rfl (Nat.le_of_ble_eq_true rfl) dL_law_718 ⟨by show kk + 0 + 0 ≤ 1094; omega, by show jj + 0 + 0 ≤ 10825; omega⟩) ?_
  refine x_iload C 5 dL_law_721 rfl ?_
  refine x_icmp_eq C (t := 728) dL_law_723 (by decide) (fun _ => ?_) (fun c1 => absurd hth c1)
  refine x_iload C 5 dL_law_728 rfl ?_
  refine x_if_ne C (t := 745) dL_law_730 (by decide) (fun c1 => absurd rfl c1) (fun _ => ?_)
  refine x_aload_n C 3 dL_law_733 rfl ?_
  refine x_iconst C (v := 0) dL_law_734 (by decide) ?_
  refine x_lald C 57 rfl (show ¬ ((0:Int32) < 0 ∨ 1 ≤ (0:Int32).toNatClampNeg) by decide) dL_law_735 ?_
  refine x_iload C 6 dL_law_736 rfl ?_
  refine x_i2l C dL_law_738 ?_
  refine x_lcmp C dL_law_739 ?_
  refine x_if_eq C (t := 745) dL_law_740 (by decide) (fun _ => ?_) (fun c1 => absurd (lg_self _ _) c1)
  refine x_goto C (t := 1689) dL_law_745 (by decide) ?_
  refine x_world (w' := (wE cI cZ ad S (eo ad (ad 0) (ad 7) (oc ao cJ (vp_updL fo 0 v.toInt64) (wM cI cZ am M' []))))) (wl_ME (D := D)).1 ((wl_ME (D := D)).2 _) ?_
  refine x_locals (lv' := [(0, .ref b), (1, .ref (ad 32)), (2, .ref (am 0)), (3, .ref ao), (4, .int i)]) [0, 1, 2, 3, 4] rfl ?_
  exact K _ _ _ (by omega) (by omega)
set_option maxHeartbeats 8000000 in
set_option maxRecDepth 100000 in
theorem LC_entries_th0 {p : Program} {l : Launch} {e : Env} {s : State} {m : MethodId} {below : List Frame} {meth : Method} {c : Code} {D : va_G} {cI cZ cJ : ClassId} {ad am : Nat → Nat} {ao b L kk jj : Nat} {xs : Nat → Int32} {S M : St} {fo : Nat → Int64} {i : Int32} {Q : State → Prop} (C : XC p room_1 s m #[Value.ref b] meth c cL_law 7 (some .boolean) RL wsL_law D (t3 cI cZ cJ)) (G : LG s b L xs) (hfl : l.stackTraces = false) (hk : kk + 1 ≤ 1094) (hj : jj + 6 ≤ 10825) {a1 : Int32} (g1 : vp_in (i + 1) L) (e1 : xs (i + 1).toNatClampNeg = a1) {v : Int32} {vb : Int32} {M' : St} (h : X5_entries S a1 = some (1, v)) (hM : X6_entries M a1 = some (vb, M')) (hth : M' 0 25 = 1) (K : ∀ (fo' : Nat → Int64) (k' j' : Nat), k' ≤ kk + 1 → j' ≤ jj + 6 → XW p l e room_1 s m #[Value.ref b] below meth c D [] 7 Q (wE cI cZ ad S (eo ad (ad 0) (ad 7) (oc ao cJ fo' (wM cI cZ am M' [])))) k' j' 1689 [(0, .ref b), (1, .ref (ad 32)), (2, .ref (am 0)), (3, .ref ao), (4, .int i)] []) : XW p l e room_1 s m #[Value.ref b] below meth c D [] 7 Q (wE cI cZ ad S (eo ad (ad 0) (ad 7) (oc ao cJ fo (wM cI cZ am M [])))) kk jj 692 [(0, .ref b), (1, .ref (ad 32)), (2, .ref (am 0)), (3, .ref ao), (4, .int i)] [] := by
  refine x_aload_n C 1 dL_law_692 rfl ?_
  refine x_aload_n C 0 dL_law_693 rfl ?_
  refine x_iload C 4 dL_law_694 rfl ?_
  refine x_iconst C (v := 1) dL_law_696 (by decide) ?_
  refine x_iadd C dL_law_697 ?_
  refine x_sld C G g1 e1 dL_law_698 ?_
  refine x_aload_n C 3 dL_law_699 rfl ?_
  refine x_ci (mc := 1) (ms := 6) (x_runSW C G.2.2.1 G.2.2.2 (As := [.ref (ad 32), .int a1, .ref ao]) (rest := []) (c_L_entries_th0 hfl h) (cwl_entries_th C) rfl (Nat.le_of_ble_eq_true rfl) dL_law_700 ⟨by show kk + 1 ≤ 1094; omega, by show jj + 6 ≤ 10825; omega⟩) ?_
  refine x_istore C (lv' := [(0, .ref b), (1, .ref (ad 32)), (2, .ref (am 0)), (3, .ref ao), (4, .int i), (5, .int 1)]) dL_law_703 (by decide) rfl ?_
  refine x_aload_n C 2 dL_law_705 rfl ?_
  refine x_aload_n C 0 dL_law_706 rfl ?_
  refine x_iload C 4 dL_law_707 rfl ?_
  refine x_iconst C (v := 1) dL_law_709 (by decide) ?_
  refine x_iadd C dL_law_710 ?_
  refine x_sld C G g1 e1 dL_law_711 ?_
  refine x_world (w' := (wM cI cZ am M (wE cI cZ ad S (eo ad (ad 0) (ad 7) (oc ao cJ fo []))))) (wl_EM (D := D)).1 ((wl_EM (D := D)).2 _) ?_
  refine x_ci0 (x_runV C (As := [.int a1]) (rest := []) (c_X6_entries hM) (cwl6_entries C) 0 rfl rfl rfl (Nat.le_of_ble_eq_true rfl) dL_law_712 ⟨by show kk + 1 + 0 ≤ 1094; omega, by show jj + 6 + 0 ≤ 10825; omega⟩) ?_
  refine x_istore C (lv' := [(0, .ref b), (1, .ref (ad 32)), (2, .ref (am 0)), (3, .ref ao), (4, .int i), (5, .int 1), (6, .int vb)]) dL_law_715 (by decide) rfl ?_
  refine x_aload_n C 2 dL_law_717 rfl ?_
  refine x_ci0 (x_runV C (As := []) (rest := []) (c_X6_thrown (S := M') (r := M' 0 25) rfl) (cwl6_thrown C) 0 rfl rfl rfl (Nat.le_of_ble_eq_true rfl) dL_law_718 ⟨by show kk + 1 + 0 ≤ 1094; omega, by show jj + 6 + 0 ≤ 10825; omega⟩) ?_
  refine x_iload C 5 dL_law_721 rfl ?_
  refine x_icmp_eq C (t := 728) dL_law_723 (by decide) (fun _ => ?_) (fun c1 => absurd hth c1)
  refine x_iload C 5 dL_law_728 rfl ?_
  refine x_if_ne C (t := 745) dL_law_730 (by decide) (fun _ => ?_) (fun c1 => absurd c1 (by decide))
  refine x_goto C (t := 1689) dL_law_745 (by decide) ?_
  refine x_world (w' := (wE cI cZ ad S (eo ad (ad 0) (ad 7) (oc ao cJ fo (wM cI cZ am M' []))))) (wl_ME (D := D)).1 ((wl_ME (D := D)).2 _) ?_
  refine x_locals (lv' := [(0, .ref b), (1, .ref (ad 32)), (2, .ref (am 0)), (3, .ref ao), (4, .int i)]) [0, 1, 2, 3, 4] rfl ?_
  exact K _ _ _ (by omega) (by omega)
set_option maxHeartbeats 8000000 in
set_option maxRecDepth 100000 in
theorem LC_isThere_ok {p : Program} {l : Launch} {e : Env} {s : State} {m : MethodId} {below : List Frame} {meth : Method} {c : Code} {D : va_G} {cI cZ cJ : ClassId} {ad am : Nat → Nat} {ao b L kk jj : Nat} {xs : Nat → Int32} {S M : St} {fo : Nat → Int64} {i : Int32} {Q : State → Prop} (C : XC p room_1 s m #[Value.ref b] meth c cL_law 7 (some .boolean) RL wsL_law D (t3 cI cZ cJ)) (G : LG s b L xs) (hfl : l.stackTraces = false) (hk : kk + 1 ≤ 1094) (hj : jj + 6 ≤ 10825) {a1 : Int32} {a2 : Int32} (g1 : vp_in (i + 1) L) (e1 : xs (i + 1).toNatClampNeg = a1) (g2 : vp_in (i + 2) L) (e2 : xs (i + 2).toNatClampNeg = a2) {v : Int32} {M' : St} (h : X5_isThere S a1 a2 = some (0, v)) (hM : X6_isThere M a1 a2 = some (v, M')) (hth : M' 0 25 = 0) (K : ∀ (fo' : Nat → Int64) (k' j' : Nat), k' ≤ kk + 1 → j' ≤ jj + 6 → XW p l e room_1 s m #[Value.ref b] below meth c D [] 7 Q (wE cI cZ ad S (eo ad (ad 0) (ad 7) (oc ao cJ fo' (wM cI cZ am M' [])))) k' j' 1689 [(0, .ref b), (1, .ref (ad 32)), (2, .ref (am 0)), (3, .ref ao), (4, .int i)] []) : XW p l e room_1 s m #[Value.ref b] below meth c D [] 7 Q (wE cI cZ ad S (eo ad (ad 0) (ad 7) (oc ao cJ fo (wM cI cZ am M [])))) kk jj 748 [(0, .ref b), (1, .ref (ad 32)), (2, .ref (am 0)), (3, .ref ao), (4, .int i)] [] := by
  refine x_aload_n C 1 dL_law_748 rfl ?_
  refine x_aload_n C 0 dL_law_749 rfl ?_
  refine x_iload C 4 dL_law_750 rfl ?_
  refine x_iconst C (v := 1) dL_law_752 (by decide) ?_
  refine x_iadd C dL_law_753 ?_
  refine x_sld C G g1 e1 dL_law_754 ?_
  refine x_aload_n C 0 dL_law_755 rfl ?_
  refine x_iload C 4 dL_law_756 rfl ?_
  refine x_iconst C (v := 2) dL_law_758 (by decide) ?_
  refine x_iadd C dL_law_759 ?_
  refine x_sld C G g2 e2 dL_law_760 ?_
  refine x_aload_n C 3 dL_law_761 rfl ?_
  refine x_ci (mc := 0) (ms := 0) (x_runSW C G.2.2.1 G.2.2.2 (As := [.ref (ad 32), .int a1, .int a2, .ref ao]) (rest := []) (c_L_isThere_ok hfl h) (cwl_isThere C) rfl (Nat.le_of_ble_eq_true rfl) dL_law_762 ⟨by show kk + 0 ≤ 1094; omega, by show jj + 0 ≤ 10825; omega⟩) ?_
  refine x_istore C (lv' := [(0, .ref b), (1, .ref (ad 32)), (2, .ref (am 0)), (3, .ref ao), (4, .int i), (5, .int 0)]) dL_law_765 (by decide) rfl ?_
  refine x_aload_n C 2 dL_law_767 rfl ?_
  refine x_aload_n C 0 dL_law_768 rfl ?_
  refine x_iload C 4 dL_law_769 rfl ?_
  refine x_iconst C (v := 1) dL_law_771 (by decide) ?_
  refine x_iadd C dL_law_772 ?_
  refine x_sld C G g1 e1 dL_law_773 ?_
  refine x_aload_n C 0 dL_law_774 rfl ?_
  refine x_iload C 4 dL_law_775 rfl ?_
  refine x_iconst C (v := 2) dL_law_777 (by decide) ?_
  refine x_iadd C dL_law_778 ?_
  refine x_sld C G g2 e2 dL_law_779 ?_
  refine x_world (w' := (wM cI cZ am M (wE cI cZ ad S (eo ad (ad 0) (ad 7) (oc ao cJ (vp_updL fo 0 (if v = 0 then 0 else 1)) []))))) (wl_EM (D := D)).1 ((wl_EM (D := D)).2 _) ?_
  refine x_ci0 (x_runV C (As := [.int a1, .int a2]) (rest := []) (c_X6_isThere hM) (cwl6_isThere C) 0 rfl rfl rfl (Nat.le_of_ble_eq_true rfl) dL_law_780 ⟨by show kk + 0 + 0 ≤ 1094; omega, by show jj + 0 + 0 ≤ 10825; omega⟩) ?_
  refine x_istore C (lv' := [(0, .ref b), (1, .ref (ad 32)), (2, .ref (am 0)), (3, .ref ao), (4, .int i), (5, .int 0), (6, .int v)]) dL_law_783 (by decide) rfl ?_
  refine x_aload_n C 2 dL_law_785 rfl ?_
  refine x_ci0 (x_runV C (As := []) (rest := []) (c_X6_thrown (S := M') (r := M' 0 25) rfl) (cwl6_thrown C) 0 rfl rfl rfl (Nat.le_of_ble_eq_true rfl) dL_law_786 ⟨by show kk + 0 + 0 ≤ 1094; omega, by show jj + 0 + 0 ≤ 10825; omega⟩) ?_
  refine x_iload C 5 dL_law_789 rfl ?_
  refine x_icmp_eq C (t := 796) dL_law_791 (by decide) (fun _ => ?_) (fun c1 => absurd hth c1)
  refine x_iload C 5 dL_law_796 rfl ?_
  refine x_if_ne C (t := 820) dL_law_798 (by decide) (fun c1 => absurd rfl c1) (fun _ => ?_)
  refine x_aload_n C 3 dL_law_801 rfl ?_
  refine x_iconst C (v := 0) dL_law_802 (by decide) ?_
  refine x_lald C 57 rfl (show ¬ ((0:Int32) < 0 ∨ 1 ≤ (0:Int32).toNatClampNeg) by decide) dL_law_803 ?_
  refine x_iload C 6 dL_law_804 rfl ?_
  refine x_if_eq C (t := 813) dL_law_806 (by decide) (fun cb => ?_) (fun cb => ?_)
  · refine x_lconst C (v := 0) dL_law_813 (by decide) ?_
    refine x_lcmp C dL_law_814 ?_
    refine x_if_eq C (t := 820) dL_law_815 (by decide) (fun _ => ?_) (fun c1 => absurd (lg_b0 cb) c1)
    refine x_goto C (t := 1689) dL_law_820 (by decide) ?_
    refine x_world (w' := (wE cI cZ ad S (eo ad (ad 0) (ad 7) (oc ao cJ (vp_updL fo 0 (if v = 0 then 0 else 1)) (wM cI cZ am M' []))))) (wl_ME (D := D)).1 ((wl_ME (D := D)).2 _) ?_
    refine x_locals (lv' := [(0, .ref b), (1, .ref (ad 32)), (2, .ref (am 0)), (3, .ref ao), (4, .int i)]) [0, 1, 2, 3, 4] rfl ?_
    exact K _ _ _ (by omega) (by omega)
  · refine x_lconst C (v := 1) dL_law_809 (by decide) ?_
    refine x_goto C (t := 814) dL_law_810 (by decide) ?_
    refine x_lcmp C dL_law_814 ?_
    refine x_if_eq C (t := 820) dL_law_815 (by decide) (fun _ => ?_) (fun c1 => absurd (lg_b1 cb) c1)
    refine x_goto C (t := 1689) dL_law_820 (by decide) ?_
    refine x_world (w' := (wE cI cZ ad S (eo ad (ad 0) (ad 7) (oc ao cJ (vp_updL fo 0 (if v = 0 then 0 else 1)) (wM cI cZ am M' []))))) (wl_ME (D := D)).1 ((wl_ME (D := D)).2 _) ?_
    refine x_locals (lv' := [(0, .ref b), (1, .ref (ad 32)), (2, .ref (am 0)), (3, .ref ao), (4, .int i)]) [0, 1, 2, 3, 4] rfl ?_
    exact K _ _ _ (by omega) (by omega)
set_option maxHeartbeats 8000000 in
set_option maxRecDepth 100000 in
theorem LC_isThere_th0 {p : Program} {l : Launch} {e : Env} {s : State} {m : MethodId} {below : List Frame} {meth : Method} {c : Code} {D : va_G} {cI cZ cJ : ClassId} {ad am : Nat → Nat} {ao b L kk jj : Nat} {xs : Nat → Int32} {S M : St} {fo : Nat → Int64} {i : Int32} {Q : State → Prop} (C : XC p room_1 s m #[Value.ref b] meth c cL_law 7 (some .boolean) RL wsL_law D (t3 cI cZ cJ)) (G : LG s b L xs) (hfl : l.stackTraces = false) (hk : kk + 1 ≤ 1094) (hj : jj + 6 ≤ 10825) {a1 : Int32} {a2 : Int32} (g1 : vp_in (i + 1) L) (e1 : xs (i + 1).toNatClampNeg = a1) (g2 : vp_in (i + 2) L) (e2 : xs (i + 2).toNatClampNeg = a2) {v : Int32} {vb : Int32} {M' : St} (h : X5_isThere S a1 a2 = some (1, v)) (hM : X6_isThere M a1 a2 = some (vb, M')) (hth : M' 0 25 = 1) (K : ∀ (fo' : Nat → Int64) (k' j' : Nat), k' ≤ kk + 1 → j' ≤ jj + 6 → XW p l e room_1 s m #[Value.ref b] below meth c D [] 7 Q (wE cI cZ ad S (eo ad (ad 0) (ad 7) (oc ao cJ fo' (wM cI cZ am M' [])))) k' j' 1689 [(0, .ref b), (1, .ref (ad 32)), (2, .ref (am 0)), (3, .ref ao), (4, .int i)] []) : XW p l e room_1 s m #[Value.ref b] below meth c D [] 7 Q (wE cI cZ ad S (eo ad (ad 0) (ad 7) (oc ao cJ fo (wM cI cZ am M [])))) kk jj 748 [(0, .ref b), (1, .ref (ad 32)), (2, .ref (am 0)), (3, .ref ao), (4, .int i)] [] := by
  refine x_aload_n C 1 dL_law_748 rfl ?_
  refine x_aload_n C 0 dL_law_749 rfl ?_
  refine x_iload C 4 dL_law_750 rfl ?_
  refine x_iconst C (v := 1) dL_law_752 (by decide) ?_
  refine x_iadd C dL_law_753 ?_
  refine x_sld C G g1 e1 dL_law_754 ?_
  refine x_aload_n C 0 dL_law_755 rfl ?_
  refine x_iload C 4 dL_law_756 rfl ?_
  refine x_iconst C (v := 2) dL_law_758 (by decide) ?_
  refine x_iadd C dL_law_759 ?_
  refine x_sld C G g2 e2 dL_law_760 ?_
  refine x_aload_n C 3 dL_law_761 rfl ?_
  refine x_ci (mc := 1) (ms := 6) (x_runSW C G.2.2.1 G.2.2.2 (As := [.ref (ad 32), .int a1, .int a2, .ref ao]) (rest := []) (c_L_isThere_th0 hfl h) (cwl_isThere_th C) rfl (Nat.le_of_ble_eq_true rfl) dL_law_762 ⟨by show kk + 1 ≤ 1094; omega, by show jj + 6 ≤ 10825; omega⟩) ?_
  refine x_istore C (lv' := [(0, .ref b), (1, .ref (ad 32)), (2, .ref (am 0)), (3, .ref ao), (4, .int i), (5, .int 1)]) dL_law_765 (by decide) rfl ?_
  refine x_aload_n C 2 dL_law_767 rfl ?_
  refine x_aload_n C 0 dL_law_768 rfl ?_
  refine x_iload C 4 dL_law_769 rfl ?_
  refine x_iconst C (v := 1) dL_law_771 (by decide) ?_
  refine x_iadd C dL_law_772 ?_
  refine x_sld C G g1 e1 dL_law_773 ?_
  refine x_aload_n C 0 dL_law_774 rfl ?_
  refine x_iload C 4 dL_law_775 rfl ?_
  refine x_iconst C (v := 2) dL_law_777 (by decide) ?_
  refine x_iadd C dL_law_778 ?_
  refine x_sld C G g2 e2 dL_law_779 ?_
  refine x_world (w' := (wM cI cZ am M (wE cI cZ ad S (eo ad (ad 0) (ad 7) (oc ao cJ fo []))))) (wl_EM (D := D)).1 ((wl_EM (D := D)).2 _) ?_
  refine x_ci0 (x_runV C (As := [.int a1, .int a2]) (rest := []) (c_X6_isThere hM) (cwl6_isThere C) 0 rfl rfl rfl (Nat.le_of_ble_eq_true rfl) dL_law_780 ⟨by show kk + 1 + 0 ≤ 1094; omega, by show jj + 6 + 0 ≤ 10825; omega⟩) ?_
  refine x_istore C (lv' := [(0, .ref b), (1, .ref (ad 32)), (2, .ref (am 0)), (3, .ref ao), (4, .int i), (5, .int 1), (6, .int vb)]) dL_law_783 (by decide) rfl ?_
  refine x_aload_n C 2 dL_law_785 rfl ?_
  refine x_ci0 (x_runV C (As := []) (rest := []) (c_X6_thrown (S := M') (r := M' 0 25) rfl) (cwl6_thrown C) 0 rfl rfl rfl (Nat.le_of_ble_eq_true rfl) dL_law_786 ⟨by show kk + 1 + 0 ≤ 1094; omega, by show jj + 6 + 0 ≤ 10825; omega⟩) ?_
  refine x_iload C 5 dL_law_789 rfl ?_
  refine x_icmp_eq C (t := 796) dL_law_791 (by decide) (fun _ => ?_) (fun c1 => absurd hth c1)
  refine x_iload C 5 dL_law_796 rfl ?_
  refine x_if_ne C (t := 820) dL_law_798 (by decide) (fun _ => ?_) (fun c1 => absurd c1 (by decide))
  refine x_goto C (t := 1689) dL_law_820 (by decide) ?_
  refine x_world (w' := (wE cI cZ ad S (eo ad (ad 0) (ad 7) (oc ao cJ fo (wM cI cZ am M' []))))) (wl_ME (D := D)).1 ((wl_ME (D := D)).2 _) ?_
  refine x_locals (lv' := [(0, .ref b), (1, .ref (ad 32)), (2, .ref (am 0)), (3, .ref ao), (4, .int i)]) [0, 1, 2, 3, 4] rfl ?_
  exact K _ _ _ (by omega) (by omega)
set_option maxHeartbeats 8000000 in
set_option maxRecDepth 100000 in
theorem LC_parentOf_ok {p : Program} {l : Launch} {e : Env} {s : State} {m : MethodId} {below : List Frame} {meth : Method} {c : Code} {D : va_G} {cI cZ cJ : ClassId} {ad am : Nat → Nat} {ao b L kk jj : Nat} {xs : Nat → Int32} {S M : St} {fo : Nat → Int64} {i : Int32} {Q : State → Prop} (C : XC p room_1 s m #[Value.ref b] meth c cL_law 7 (some .boolean) RL wsL_law D (t3 cI cZ cJ)) (G : LG s b L xs) (hfl : l.stackTraces = false) (hk : kk + 1 ≤ 1094) (hj : jj + 6 ≤ 10825) {a1 : Int32} {a2 : Int32} (g1 : vp_in (i + 1) L) (e1 : xs (i + 1).toNatClampNeg = a1) (g2 : vp_in (i + 2) L) (e2 : xs (i + 2).toNatClampNeg = a2) {v : Int32} {M' : St} (h : X5_parentOf S a1 a2 = some (0, v)) (hM : X6_parentOf M a1 a2 = some (v, M')) (hth : M' 0 25 = 0) (K : ∀ (fo' : Nat → Int64) (k' j' : Nat), k' ≤ kk + 1 → j' ≤ jj + 6 → XW p l e room_1 s m #[Value.ref b] below meth c D [] 7 Q (wE cI cZ ad S (eo ad (ad 0) (ad 7) (oc ao cJ fo' (wM cI cZ am M' [])))) k' j' 1689 [(0, .ref b), (1, .ref (ad 32)), (2, .ref (am 0)), (3, .ref ao), (4, .int i)] []) : XW p l e room_1 s m #[Value.ref b] below meth c D [] 7 Q (wE cI cZ ad S (eo ad (ad 0) (ad 7) (oc ao cJ fo (wM cI cZ am M [])))) kk jj 823 [(0, .ref b), (1, .ref (ad 32)), (2, .ref (am 0)), (3, .ref ao), (4, .int i)] [] := by
  refine x_aload_n C 1 dL_law_823 rfl ?_
  refine x_aload_n C 0 dL_law_824 rfl ?_
  refine x_iload C 4 dL_law_825 rfl ?_
  refine x_iconst C (v := 1) dL_law_827 (by decide) ?_
  refine x_iadd C dL_law_828 ?_
  refine x_sld C G g1 e1 dL_law_829 ?_
  refine x_aload_n C 0 dL_law_830 rfl ?_
  refine x_iload C 4 dL_law_831 rfl ?_
  refine x_iconst C (v := 2) dL_law_833 (by decide) ?_
  refine x_iadd C dL_law_834 ?_
  refine x_sld C G g2 e2 dL_law_835 ?_
  refine x_aload_n C 3 dL_law_836 rfl ?_
  refine x_ci (mc := 0) (ms := 0) (x_runSW C G.2.2.1 G.2.2.2 (As := [.ref (ad 32), .int a1, .int a2, .ref ao]) (rest := []) (c_L_parentOf_ok hfl h) (cwl_parentOf C) rfl (Nat.le_of_ble_eq_true rfl) dL_law_837 ⟨by show kk + 0 ≤ 1094; omega, by show jj + 0 ≤ 10825; omega⟩) ?_
  refine x_istore C (lv' := [(0, .ref b), (1, .ref (ad 32)), (2, .ref (am 0)), (3, .ref ao), (4, .int i), (5, .int 0)]) dL_law_840 (by decide) rfl ?_
  refine x_aload_n C 2 dL_law_842 rfl ?_
  refine x_aload_n C 0 dL_law_843 rfl ?_
  refine x_iload C 4 dL_law_844 rfl ?_
  refine x_iconst C (v := 1) dL_law_846 (by decide) ?_
  refine x_iadd C dL_law_847 ?_
  refine x_sld C G g1 e1 dL_law_848 ?_
  refine x_aload_n C 0 dL_law_849 rfl ?_
  refine x_iload C 4 dL_law_850 rfl ?_
  refine x_iconst C (v := 2) dL_law_852 (by decide) ?_
  refine x_iadd C dL_law_853 ?_
  refine x_sld C G g2 e2 dL_law_854 ?_
  refine x_world (w' := (wM cI cZ am M (wE cI cZ ad S (eo ad (ad 0) (ad 7) (oc ao cJ (vp_updL fo 0 v.toInt64) []))))) (wl_EM (D := D)).1 ((wl_EM (D := D)).2 _) ?_
  refine x_ci0 (x_runV C (As := [.int a1, .int a2]) (rest := []) (c_X6_parentOf hM) (cwl6_parentOf C) 0 rfl rfl rfl (Nat.le_of_ble_eq_true rfl) dL_law_855 ⟨by show kk + 0 + 0 ≤ 1094; omega, by show jj + 0 + 0 ≤ 10825; omega⟩) ?_
  refine x_istore C (lv' := [(0, .ref b), (1, .ref (ad 32)), (2, .ref (am 0)), (3, .ref ao), (4, .int i), (5, .int 0), (6, .int v)]) dL_law_858 (by decide) rfl ?_
  refine x_aload_n C 2 dL_law_860 rfl ?_
  refine x_ci0 (x_runV C (As := []) (rest := []) (c_X6_thrown (S := M') (r := M' 0 25) rfl) (cwl6_thrown C) 0 rfl rfl rfl (Nat.le_of_ble_eq_true rfl) dL_law_861 ⟨by show kk + 0 + 0 ≤ 1094; omega, by show jj + 0 + 0 ≤ 10825; omega⟩) ?_
  refine x_iload C 5 dL_law_864 rfl ?_
  refine x_icmp_eq C (t := 871) dL_law_866 (by decide) (fun _ => ?_) (fun c1 => absurd hth c1)
  refine x_iload C 5 dL_law_871 rfl ?_
  refine x_if_ne C (t := 888) dL_law_873 (by decide) (fun c1 => absurd rfl c1) (fun _ => ?_)
  refine x_aload_n C 3 dL_law_876 rfl ?_
  refine x_iconst C (v := 0) dL_law_877 (by decide) ?_
  refine x_lald C 57 rfl (show ¬ ((0:Int32) < 0 ∨ 1 ≤ (0:Int32).toNatClampNeg) by decide) dL_law_878 ?_
  refine x_iload C 6 dL_law_879 rfl ?_
  refine x_i2l C dL_law_881 ?_
  refine x_lcmp C dL_law_882 ?_
  refine x_if_eq C (t := 888) dL_law_883 (by decide) (fun _ => ?_) (fun c1 => absurd (lg_self _ _) c1)
  refine x_goto C (t := 1689) dL_law_888 (by decide) ?_
  refine x_world (w' := (wE cI cZ ad S (eo ad (ad 0) (ad 7) (oc ao cJ (vp_updL fo 0 v.toInt64) (wM cI cZ am M' []))))) (wl_ME (D := D)).1 ((wl_ME (D := D)).2 _) ?_
  refine x_locals (lv' := [(0, .ref b), (1, .ref (ad 32)), (2, .ref (am 0)), (3, .ref ao), (4, .int i)]) [0, 1, 2, 3, 4] rfl ?_
  exact K _ _ _ (by omega) (by omega)
