set_option maxHeartbeats 8000000 in
set_option maxRecDepth 100000 in
theorem LC_parentOf_th0 {p : Program} {l : Launch} {e : Env} {s : State} {m : MethodId} {below : List Frame} {meth : Method} {c : Code} {D : va_G} {cI cZ cJ : ClassId} {ad am : Nat → Nat} {ao b L kk jj : Nat} {xs : Nat → Int32} {S M : St} {fo : Nat → Int64} {i : Int32} {Q : State → Prop} (C : XC p room_1 s m #[Value.ref b] meth c cL_law 7 (some .boolean) RL wsL_law D (t3 cI cZ cJ)) (G : LG s b L xs) (hfl : l.stackTraces = false) (hk : kk + 1 ≤ 1094) (hj : jj + 6 ≤ 10825) {a1 : Int32} {a2 : Int32} (g1 : vp_in (i + 1) L) (e1 : xs (i + 1).toNatClampNeg = a1) (g2 : vp_in (i + 2) L) (e2 : xs (i + 2).toNatClampNeg = a2) {v : Int32} {vb : Int32} {M' : St} (h : X5_parentOf S a1 a2 = some (1, v)) (hM : X6_parentOf M a1 a2 = some (vb, M')) (hth : M' 0 25 = 1) (K : ∀ (fo' : Nat → Int64) (k' j' : Nat), k' ≤ kk + 1 → j' ≤ jj + 6 → XW p l e room_1 s m #[Value.ref b] below meth c D [] 7 Q (wE cI cZ ad S (eo ad (ad 0) (ad 7) (oc ao cJ fo' (wM cI cZ am M' [])))) k' j' 1689 [(0, .ref b), (1, .ref (ad 32)), (2, .ref (am 0)), (3, .ref ao), (4, .int i)] []) : XW p l e room_1 s m #[Value.ref b] below meth c D [] 7 Q (wE cI cZ ad S (eo ad (ad 0) (ad 7) (oc ao cJ fo (wM cI cZ am M [])))) kk jj 823 [(0, .ref b), (1, .ref (ad 32)), (2, .ref (am 0)), (3, .ref ao), (4, .int i)] [] := by
  refine x_aload_n C 1 dL_law_823 rfl ?_
  refine x_aload_n C 0 dL_law_824 rfl ?_
  refine x_iload C 4 dL_law_825 rfl ?_
  refine x_iconst C (v := 1) dL_law_827 (by decide) ?_
  refine x_iadd C dL_law_828 ?_
  refine x_sld C G g1 e1 dL_law_829 ?_
  refine x_aload_n C 0 dL_law_830 rfl ?_
  refine x_iload C 4 dL_law_831 rfl ?_
  refine x_iconst C (v := 2) dL_law_833 (by decide) ?_
  refine x_iadd C dL_law_834 ?_
  refine x_sld C G g2 e2 dL_law_835 ?_
  refine x_aload_n C 3 dL_law_836 rfl ?_
  refine x_ci (mc := 1) (ms := 6) (x_runSW C G.2.2.1 G.2.2.2 (As := [.ref (ad 32), .int a1, .int a2, .ref ao]) (rest := []) (c_L_parentOf_th0 hfl h) (cwl_parentOf_th C) rfl (Nat.le_of_ble_eq_true rfl) dL_law_837 ⟨by show kk + 1 ≤ 1094; omega, by show jj + 6 ≤ 10825; omega⟩) ?_
  refine x_istore C (lv' := [(0, .ref b), (1, .ref (ad 32)), (2, .ref (am 0)), (3, .ref ao), (4, .int i), (5, .int 1)]) dL_law_840 (by decide) rfl ?_
  refine x_aload_n C 2 dL_law_842 rfl ?_
  refine x_aload_n C 0 dL_law_843 rfl ?_
  refine x_iload C 4 dL_law_844 rfl ?_
  refine x_iconst C (v := 1) dL_law_846 (by decide) ?_
  refine x_iadd C dL_law_847 ?_
  refine x_sld C G g1 e1 dL_law_848 ?_
  refine x_aload_n C 0 dL_law_849 rfl ?_
  refine x_iload C 4 dL_law_850 rfl ?_
  refine x_iconst C (v := 2) dL_law_852 (by decide) ?_
  refine x_iadd C dL_law_853 ?_
  refine x_sld C G g2 e2 dL_law_854 ?_
  refine x_world (w' := (wM cI cZ am M (wE cI cZ ad S (eo ad (ad 0) (ad 7) (oc ao cJ fo []))))) (wl_EM (D := D)).1 ((wl_EM (D := D)).2 _) ?_
  refine x_ci0 (x_runV C (As := [.int a1, .int a2]) (rest := []) (c_X6_parentOf hM) (cwl6_parentOf C) 0 rfl rfl rfl (Nat.le_of_ble_eq_true rfl) dL_law_855 ⟨by show kk + 1 + 0 ≤ 1094; omega, by show jj + 6 + 0 ≤ 10825; omega⟩) ?_
  refine x_istore C (lv' := [(0, .ref b), (1, .ref (ad 32)), (2, .ref (am 0)), (3, .ref ao), (4, .int i), (5, .int 1), (6, .int vb)]) dL_law_858 (by decide) rfl ?_
  refine x_aload_n C 2 dL_law_860 rfl ?_
  refine x_ci0 (x_runV C (As := []) (rest := []) (c_X6_thrown (S := M') (r := M' 0 25) rfl) (cwl6_thrown C) 0 rfl rfl rfl (Nat.le_of_ble_eq_true rfl) dL_law_861 ⟨by show kk + 1 + 0 ≤ 1094; omega, by show jj + 6 + 0 ≤ 10825; omega⟩) ?_
  refine x_iload C 5 dL_law_864 rfl ?_
  refine x_icmp_eq C (t := 871) dL_law_866 (by decide) (fun _ => ?_) (fun c1 => absurd hth c1)
  refine x_iload C 5 dL_law_871 rfl ?_
  refine x_if_ne C (t := 888) dL_law_873 (by decide) (fun _ => ?_) (fun c1 => absurd c1 (by decide))
  refine x_goto C (t := 1689) dL_law_888 (by decide) ?_
  refine x_world (w' := (wE cI cZ ad S (eo ad (ad 0) (ad 7) (oc ao cJ fo (wM cI cZ am M' []))))) (wl_ME (D := D)).1 ((wl_ME (D := D)).2 _) ?_
  refine x_locals (lv' := [(0, .ref b), (1, .ref (ad 32)), (2, .ref (am 0)), (3, .ref ao), (4, .int i)]) [0, 1, 2, 3, 4] rfl ?_
  exact K _ _ _ (by omega) (by omega)
set_option maxHeartbeats 8000000 in
set_option maxRecDepth 100000 in
theorem LC_labelOf_ok {p : Program} {l : Launch} {e : Env} {s : State} {m : MethodId} {below : List Frame} {meth : Method} {c : Code} {D : va_G} {cI cZ cJ : ClassId} {ad am : Nat → Nat} {ao b L kk jj : Nat} {xs : Nat → Int32} {S M : St} {fo : Nat → Int64} {i : Int32} {Q : State → Prop} (C : XC p room_1 s m #[Value.ref b] meth c cL_law 7 (some .boolean) RL wsL_law D (t3 cI cZ cJ)) (G : LG s b L xs) (hfl : l.stackTraces = false) (hk : kk + 1 ≤ 1094) (hj : jj + 6 ≤ 10825) {a1 : Int32} {a2 : Int32} (g1 : vp_in (i + 1) L) (e1 : xs (i + 1).toNatClampNeg = a1) (g2 : vp_in (i + 2) L) (e2 : xs (i + 2).toNatClampNeg = a2) {v : Int32} {M' : St} (h : X5_labelOf S a1 a2 = some (0, v)) (hM : X6_labelOf M a1 a2 = some (v, M')) (hth : M' 0 25 = 0) (K : ∀ (fo' : Nat → Int64) (k' j' : Nat), k' ≤ kk + 1 → j' ≤ jj + 6 → XW p l e room_1 s m #[Value.ref b] below meth c D [] 7 Q (wE cI cZ ad S (eo ad (ad 0) (ad 7) (oc ao cJ fo' (wM cI cZ am M' [])))) k' j' 1689 [(0, .ref b), (1, .ref (ad 32)), (2, .ref (am 0)), (3, .ref ao), (4, .int i)] []) : XW p l e room_1 s m #[Value.ref b] below meth c D [] 7 Q (wE cI cZ ad S (eo ad (ad 0) (ad 7) (oc ao cJ fo (wM cI cZ am M [])))) kk jj 891 [(0, .ref b), (1, .ref (ad 32)), (2, .ref (am 0)), (3, .ref ao), (4, .int i)] [] := by
  refine x_aload_n C 1 dL_law_891 rfl ?_
  refine x_aload_n C 0 dL_law_892 rfl ?_
  refine x_iload C 4 dL_law_893 rfl ?_
  refine x_iconst C (v := 1) dL_law_895 (by decide) ?_
  refine x_iadd C dL_law_896 ?_
  refine x_sld C G g1 e1 dL_law_897 ?_
  refine x_aload_n C 0 dL_law_898 rfl ?_
  refine x_iload C 4 dL_law_899 rfl ?_
  refine x_iconst C (v := 2) dL_law_901 (by decide) ?_
  refine x_iadd C dL_law_902 ?_
  refine x_sld C G g2 e2 dL_law_903 ?_
  refine x_aload_n C 3 dL_law_904 rfl ?_
  refine x_ci (mc := 0) (ms := 0) (x_runSW C G.2.2.1 G.2.2.2 (As := [.ref (ad 32), .int a1, .int a2, .ref ao]) (rest := []) (c_L_labelOf_ok hfl h) (cwl_labelOf C) rfl (Nat.le_of_ble_eq_true rfl) dL_law_905 ⟨by show kk + 0 ≤ 1094; omega, by show jj + 0 ≤ 10825; omega⟩) ?_
  refine x_istore C (lv' := [(0, .ref b), (1, .ref (ad 32)), (2, .ref (am 0)), (3, .ref ao), (4, .int i), (5, .int 0)]) dL_law_908 (by decide) rfl ?_
  refine x_aload_n C 2 dL_law_910 rfl ?_
  refine x_aload_n C 0 dL_law_911 rfl ?_
  refine x_iload C 4 dL_law_912 rfl ?_
  refine x_iconst C (v := 1) dL_law_914 (by decide) ?_
  refine x_iadd C dL_law_915 ?_
  refine x_sld C G g1 e1 dL_law_916 ?_
  refine x_aload_n C 0 dL_law_917 rfl ?_
  refine x_iload C 4 dL_law_918 rfl ?_
  refine x_iconst C (v := 2) dL_law_920 (by decide) ?_
  refine x_iadd C dL_law_921 ?_
  refine x_sld C G g2 e2 dL_law_922 ?_
  refine x_world (w' := (wM cI cZ am M (wE cI cZ ad S (eo ad (ad 0) (ad 7) (oc ao cJ (vp_updL fo 0 v.toInt64) []))))) (wl_EM (D := D)).1 ((wl_EM (D := D)).2 _) ?_
  refine x_ci0 (x_runV C (As := [.int a1, .int a2]) (rest := []) (c_X6_labelOf hM) (cwl6_labelOf C) 0 rfl rfl rfl (Nat.le_of_ble_eq_true rfl) dL_law_923 ⟨by show kk + 0 + 0 ≤ 1094; omega, by show jj + 0 + 0 ≤ 10825; omega⟩) ?_
  refine x_istore C (lv' := [(0, .ref b), (1, .ref (ad 32)), (2, .ref (am 0)), (3, .ref ao), (4, .int i), (5, .int 0), (6, .int v)]) dL_law_926 (by decide) rfl ?_
  refine x_aload_n C 2 dL_law_928 rfl ?_
  refine x_ci0 (x_runV C (As := []) (rest := []) (c_X6_thrown (S := M') (r := M' 0 25) rfl) (cwl6_thrown C) 0 rfl rfl rfl (Nat.le_of_ble_eq_true rfl) dL_law_929 ⟨by show kk + 0 + 0 ≤ 1094; omega, by show jj + 0 + 0 ≤ 10825; omega⟩) ?_
  refine x_iload C 5 dL_law_932 rfl ?_
  refine x_icmp_eq C (t := 939) dL_law_934 (by decide) (fun _ => ?_) (fun c1 => absurd hth c1)
  refine x_iload C 5 dL_law_939 rfl ?_
  refine x_if_ne C (t := 956) dL_law_941 (by decide) (fun c1 => absurd rfl c1) (fun _ => ?_)
  refine x_aload_n C 3 dL_law_944 rfl ?_
  refine x_iconst C (v := 0) dL_law_945 (by decide) ?_
  refine x_lald C 57 rfl (show ¬ ((0:Int32) < 0 ∨ 1 ≤ (0:Int32).toNatClampNeg) by decide) dL_law_946 ?_
  refine x_iload C 6 dL_law_947 rfl ?_
  refine x_i2l C dL_law_949 ?_
  refine x_lcmp C dL_law_950 ?_
  refine x_if_eq C (t := 956) dL_law_951 (by decide) (fun _ => ?_) (fun c1 => absurd (lg_self _ _) c1)
  refine x_goto C (t := 1689) dL_law_956 (by decide) ?_
  refine x_world (w' := (wE cI cZ ad S (eo ad (ad 0) (ad 7) (oc ao cJ (vp_updL fo 0 v.toInt64) (wM cI cZ am M' []))))) (wl_ME (D := D)).1 ((wl_ME (D := D)).2 _) ?_
  refine x_locals (lv' := [(0, .ref b), (1, .ref (ad 32)), (2, .ref (am 0)), (3, .ref ao), (4, .int i)]) [0, 1, 2, 3, 4] rfl ?_
  exact K _ _ _ (by omega) (by omega)
set_option maxHeartbeats 8000000 in
set_option maxRecDepth 100000 in
theorem LC_labelOf_th0 {p : Program} {l : Launch} {e : Env} {s : State} {m : MethodId} {below : List Frame} {meth : Method} {c : Code} {D : va_G} {cI cZ cJ : ClassId} {ad am : Nat → Nat} {ao b L kk jj : Nat} {xs : Nat → Int32} {S M : St} {fo : Nat → Int64} {i : Int32} {Q : State → Prop} (C : XC p room_1 s m #[Value.ref b] meth c cL_law 7 (some .boolean) RL wsL_law D (t3 cI cZ cJ)) (G : LG s b L xs) (hfl : l.stackTraces = false) (hk : kk + 1 ≤ 1094) (hj : jj + 6 ≤ 10825) {a1 : Int32} {a2 : Int32} (g1 : vp_in (i + 1) L) (e1 : xs (i + 1).toNatClampNeg = a1) (g2 : vp_in (i + 2) L) (e2 : xs (i + 2).toNatClampNeg = a2) {v : Int32} {vb : Int32} {M' : St} (h : X5_labelOf S a1 a2 = some (1, v)) (hM : X6_labelOf M a1 a2 = some (vb, M')) (hth : M' 0 25 = 1) (K : ∀ (fo' : Nat → Int64) (k' j' : Nat), k' ≤ kk + 1 → j' ≤ jj + 6 → XW p l e room_1 s m #[Value.ref b] below meth c D [] 7 Q (wE cI cZ ad S (eo ad (ad 0) (ad 7) (oc ao cJ fo' (wM cI cZ am M' [])))) k' j' 1689 [(0, .ref b), (1, .ref (ad 32)), (2, .ref (am 0)), (3, .ref ao), (4, .int i)] []) : XW p l e room_1 s m #[Value.ref b] below meth c D [] 7 Q (wE cI cZ ad S (eo ad (ad 0) (ad 7) (oc ao cJ fo (wM cI cZ am M [])))) kk jj 891 [(0, .ref b), (1, .ref (ad 32)), (2, .ref (am 0)), (3, .ref ao), (4, .int i)] [] := by
  refine x_aload_n C 1 dL_law_891 rfl ?_
  refine x_aload_n C 0 dL_law_892 rfl ?_
  refine x_iload C 4 dL_law_893 rfl ?_
  refine x_iconst C (v := 1) dL_law_895 (by decide) ?_
  refine x_iadd C dL_law_896 ?_
  refine x_sld C G g1 e1 dL_law_897 ?_
  refine x_aload_n C 0 dL_law_898 rfl ?_
  refine x_iload C 4 dL_law_899 rfl ?_
  refine x_iconst C (v := 2) dL_law_901 (by decide) ?_
  refine x_iadd C dL_law_902 ?_
  refine x_sld C G g2 e2 dL_law_903 ?_
  refine x_aload_n C 3 dL_law_904 rfl ?_
  refine x_ci (mc := 1) (ms := 6) (x_runSW C G.2.2.1 G.2.2.2 (As := [.ref (ad 32), .int a1, .int a2, .ref ao]) (rest := []) (c_L_labelOf_th0 hfl h) (cwl_labelOf_th C) rfl (Nat.le_of_ble_eq_true rfl) dL_law_905 ⟨by show kk + 1 ≤ 1094; omega, by show jj + 6 ≤ 10825; omega⟩) ?_
  refine x_istore C (lv' := [(0, .ref b), (1, .ref (ad 32)), (2, .ref (am 0)), (3, .ref ao), (4, .int i), (5, .int 1)]) dL_law_908 (by decide) rfl ?_
  refine x_aload_n C 2 dL_law_910 rfl ?_
  refine x_aload_n C 0 dL_law_911 rfl ?_
  refine x_iload C 4 dL_law_912 rfl ?_
  refine x_iconst C (v := 1) dL_law_914 (by decide) ?_
  refine x_iadd C dL_law_915 ?_
  refine x_sld C G g1 e1 dL_law_916 ?_
  refine x_aload_n C 0 dL_law_917 rfl ?_
  refine x_iload C 4 dL_law_918 rfl ?_
  refine x_iconst C (v := 2) dL_law_920 (by decide) ?_
  refine x_iadd C dL_law_921 ?_
  refine x_sld C G g2 e2 dL_law_922 ?_
  refine x_world (w' := (wM cI cZ am M (wE cI cZ ad S (eo ad (ad 0) (ad 7) (oc ao cJ fo []))))) (wl_EM (D := D)).1 ((wl_EM (D := D)).2 _) ?_
  refine x_ci0 (x_runV C (As := [.int a1, .int a2]) (rest := []) (c_X6_labelOf hM) (cwl6_labelOf C) 0 rfl rfl rfl (Nat.le_of_ble_eq_true rfl) dL_law_923 ⟨by show kk + 1 + 0 ≤ 1094; omega, by show jj + 6 + 0 ≤ 10825; omega⟩) ?_
  refine x_istore C (lv' := [(0, .ref b), (1, .ref (ad 32)), (2, .ref (am 0)), (3, .ref ao), (4, .int i), (5, .int 1), (6, .int vb)]) dL_law_926 (by decide) rfl ?_
  refine x_aload_n C 2 dL_law_928 rfl ?_
  refine x_ci0 (x_runV C (As := []) (rest := []) (c_X6_thrown (S := M') (r := M' 0 25) rfl) (cwl6_thrown C) 0 rfl rfl rfl (Nat.le_of_ble_eq_true rfl) dL_law_929 ⟨by show kk + 1 + 0 ≤ 1094; omega, by show jj + 6 + 0 ≤ 10825; omega⟩) ?_
  refine x_iload C 5 dL_law_932 rfl ?_
  refine x_icmp_eq C (t := 939) dL_law_934 (by decide) (fun _ => ?_) (fun c1 => absurd hth c1)
  refine x_iload C 5 dL_law_939 rfl ?_
  refine x_if_ne C (t := 956) dL_law_941 (by decide) (fun _ => ?_) (fun c1 => absurd c1 (by decide))
  refine x_goto C (t := 1689) dL_law_956 (by decide) ?_
  refine x_world (w' := (wE cI cZ ad S (eo ad (ad 0) (ad 7) (oc ao cJ fo (wM cI cZ am M' []))))) (wl_ME (D := D)).1 ((wl_ME (D := D)).2 _) ?_
  refine x_locals (lv' := [(0, .ref b), (1, .ref (ad 32)), (2, .ref (am 0)), (3, .ref ao), (4, .int i)]) [0, 1, 2, 3, 4] rfl ?_
  exact K _ _ _ (by omega) (by omega)
set_option maxHeartbeats 8000000 in
set_option maxRecDepth 100000 in
theorem LC_value_ok {p : Program} {l : Launch} {e : Env} {s : State} {m : MethodId} {below : List Frame} {meth : Method} {c : Code} {D : va_G} {cI cZ cJ : ClassId} {ad am : Nat → Nat} {ao b L kk jj : Nat} {xs : Nat → Int32} {S M : St} {fo : Nat → Int64} {i : Int32} {Q : State → Prop} (C : XC p room_1 s m #[Value.ref b] meth c cL_law 7 (some .boolean) RL wsL_law D (t3 cI cZ cJ)) (G : LG s b L xs) (hfl : l.stackTraces = false) (hk : kk + 1 ≤ 1094) (hj : jj + 6 ≤ 10825) {a1 : Int32} {a2 : Int32} {a3 : Int32} (g1 : vp_in (i + 1) L) (e1 : xs (i + 1).toNatClampNeg = a1) (g2 : vp_in (i + 2) L) (e2 : xs (i + 2).toNatClampNeg = a2) (g3 : vp_in (i + 3) L) (e3 : xs (i + 3).toNatClampNeg = a3) {v : Int32} {M' : St} (h : X5_value S a1 a2 a3 = some (0, v)) (hM : X6_value M a1 a2 a3 = some (v, M')) (hth : M' 0 25 = 0) (K : ∀ (fo' : Nat → Int64) (k' j' : Nat), k' ≤ kk + 1 → j' ≤ jj + 6 → XW p l e room_1 s m #[Value.ref b] below meth c D [] 7 Q (wE cI cZ ad S (eo ad (ad 0) (ad 7) (oc ao cJ fo' (wM cI cZ am M' [])))) k' j' 1689 [(0, .ref b), (1, .ref (ad 32)), (2, .ref (am 0)), (3, .ref ao), (4, .int i)] []) : XW p l e room_1 s m #[Value.ref b] below meth c D [] 7 Q (wE cI cZ ad S (eo ad (ad 0) (ad 7) (oc ao cJ fo (wM cI cZ am M [])))) kk jj 959 [(0, .ref b), (1, .ref (ad 32)), (2, .ref (am 0)), (3, .ref ao), (4, .int i)] [] := by
  refine x_aload_n C 1 dL_law_959 rfl ?_
  refine x_aload_n C 0 dL_law_960 rfl ?_
  refine x_iload C 4 dL_law_961 rfl ?_
  refine x_iconst C (v := 1) dL_law_963 (by decide) ?_
  refine x_iadd C dL_law_964 ?_
  refine x_sld C G g1 e1 dL_law_965 ?_
  refine x_aload_n C 0 dL_law_966 rfl ?_
  refine x_iload C 4 dL_law_967 rfl ?_
  refine x_iconst C (v := 2) dL_law_969 (by decide) ?_
  refine x_iadd C dL_law_970 ?_
  refine x_sld C G g2 e2 dL_law_971 ?_
  refine x_aload_n C 0 dL_law_972 rfl ?_
  refine x_iload C 4 dL_law_973 rfl ?_
  refine x_iconst C (v := 3) dL_law_975 (by decide) ?_
  refine x_iadd C dL_law_976 ?_
  refine x_sld C G g3 e3 dL_law_977 ?_
  refine x_aload_n C 3 dL_law_978 rfl ?_
  refine x_ci (mc := 0) (ms := 0) (x_runSW C G.2.2.1 G.2.2.2 (As := [.ref (ad 32), .int a1, .int a2, .int a3, .ref ao]) (rest := []) (c_L_value_ok hfl h) (cwl_value C) rfl (Nat.le_of_ble_eq_true rfl) dL_law_979 ⟨by show kk + 0 ≤ 1094; omega, by show jj + 0 ≤ 10825; omega⟩) ?_
  refine x_istore C (lv' := [(0, .ref b), (1, .ref (ad 32)), (2, .ref (am 0)), (3, .ref ao), (4, .int i), (5, .int 0)]) dL_law_982 (by decide) rfl ?_
  refine x_aload_n C 2 dL_law_984 rfl ?_
  refine x_aload_n C 0 dL_law_985 rfl ?_
  refine x_iload C 4 dL_law_986 rfl ?_
  refine x_iconst C (v := 1) dL_law_988 (by decide) ?_
  refine x_iadd C dL_law_989 ?_
  refine x_sld C G g1 e1 dL_law_990 ?_
  refine x_aload_n C 0 dL_law_991 rfl ?_
  refine x_iload C 4 dL_law_992 rfl ?_
  refine x_iconst C (v := 2) dL_law_994 (by decide) ?_
  refine x_iadd C dL_law_995 ?_
  refine x_sld C G g2 e2 dL_law_996 ?_
  refine x_aload_n C 0 dL_law_997 rfl ?_
  refine x_iload C 4 dL_law_998 rfl ?_
  refine x_iconst C (v := 3) dL_law_1000 (by decide) ?_
  refine x_iadd C dL_law_1001 ?_
  refine x_sld C G g3 e3 dL_law_1002 ?_
  refine x_world (w' := (wM cI cZ am M (wE cI cZ ad S (eo ad (ad 0) (ad 7) (oc ao cJ (vp_updL fo 0 v.toInt64) []))))) (wl_EM (D := D)).1 ((wl_EM (D := D)).2 _) ?_
  refine x_ci0 (x_runV C (As := [.int a1, .int a2, .int a3]) (rest := []) (c_X6_value hM) (cwl6_value C) 0 rfl rfl rfl (Nat.le_of_ble_eq_true rfl) dL_law_1003 ⟨by show kk + 0 + 0 ≤ 1094; omega, by show jj + 0 + 0 ≤ 10825; omega⟩) ?_
  refine x_istore C (lv' := [(0, .ref b), (1, .ref (ad 32)), (2, .ref (am 0)), (3, .ref ao), (4, .int i), (5, .int 0), (6, .int v)]) dL_law_1006 (by decide) rfl ?_
  refine x_aload_n C 2 dL_law_1008 rfl ?_
  refine x_ci0 (x_runV C (As := []) (rest := []) (c_X6_thrown (S := M') (r := M' 0 25) rfl) (cwl6_thrown C) 0 rfl rfl rfl (Nat.le_of_ble_eq_true rfl) dL_law_1009 ⟨by show kk + 0 + 0 ≤ 1094; omega, by show jj + 0 + 0 ≤ 10825; omega⟩) ?_
  refine x_iload C 5 dL_law_1012 rfl ?_
  refine x_icmp_eq C (t := 1019) dL_law_1014 (by decide) (fun _ => ?_) (fun c1 => absurd hth c1)
  refine x_iload C 5 dL_law_1019 rfl ?_
  refine x_if_ne C (t := 1036) dL_law_1021 (by decide) (fun c1 => absurd rfl c1) (fun _ => ?_)
  refine x_aload_n C 3 dL_law_1024 rfl ?_
  refine x_iconst C (v := 0) dL_law_1025 (by decide) ?_
  refine x_lald C 57 rfl (show ¬ ((0:Int32) < 0 ∨ 1 ≤ (0:Int32).toNatClampNeg) by decide) dL_law_1026 ?_
  refine x_iload C 6 dL_law_1027 rfl ?_
  refine x_i2l C dL_law_1029 ?_
  refine x_lcmp C dL_law_1030 ?_
  refine x_if_eq C (t := 1036) dL_law_1031 (by decide) (fun _ => ?_) (fun c1 => absurd (lg_self _ _) c1)
  refine x_goto C (t := 1689) dL_law_1036 (by decide) ?_
  refine x_world (w' := (wE cI cZ ad S (eo ad (ad 0) (ad 7) (oc ao cJ (vp_updL fo 0 v.toInt64) (wM cI cZ am M' []))))) (wl_ME (D := D)).1 ((wl_ME (D := D)).2 _) ?_
  refine x_locals (lv' := [(0, .ref b), (1, .ref (ad 32)), (2, .ref (am 0)), (3, .ref ao), (4, .int i)]) [0, 1, 2, 3, 4] rfl ?_
  exact K _ _ _ (by omega) (by omega)
set_option maxHeartbeats 8000000 in
set_option maxRecDepth 100000 in
theorem LC_value_th0 {p : Program} {l : Launch} {e : Env} {s : State} {m : MethodId} {below : List Frame} {meth : Method} {c : Code} {D : va_G} {cI cZ cJ : ClassId} {ad am : Nat → Nat} {ao b L kk jj : Nat} {xs : Nat → Int32} {S M : St} {fo : Nat → Int64} {i : Int32} {Q : State → Prop} (C : XC p room_1 s m #[Value.ref b] meth c cL_law 7 (some .boolean) RL wsL_law D (t3 cI cZ cJ)) (G : LG s b L xs) (hfl : l.stackTraces = false) (hk : kk + 1 ≤ 1094) (hj : jj + 6 ≤ 10825) {a1 : Int32} {a2 : Int32} {a3 : Int32} (g1 : vp_in (i + 1) L) (e1 : xs (i + 1).toNatClampNeg = a1) (g2 : vp_in (i + 2) L) (e2 : xs (i + 2).toNatClampNeg = a2) (g3 : vp_in (i + 3) L) (e3 : xs (i + 3).toNatClampNeg = a3) {v : Int32} {vb : Int32} {M' : St} (h : X5_value S a1 a2 a3 = some (1, v)) (hM : X6_value M a1 a2 a3 = some (vb, M')) (hth : M' 0 25 = 1) (K : ∀ (fo' : Nat → Int64) (k' j' : Nat), k' ≤ kk + 1 → j' ≤ jj + 6 → XW p l e room_1 s m #[Value.ref b] below meth c D [] 7 Q (wE cI cZ ad S (eo ad (ad 0) (ad 7) (oc ao cJ fo' (wM cI cZ am M' [])))) k' j' 1689 [(0, .ref b), (1, .ref (ad 32)), (2, .ref (am 0)), (3, .ref ao), (4, .int i)] []) : XW p l e room_1 s m #[Value.ref b] below meth c D [] 7 Q (wE cI cZ ad S (eo ad (ad 0) (ad 7) (oc ao cJ fo (wM cI cZ am M [])))) kk jj 959 [(0, .ref b), (1, .ref (ad 32)), (2, .ref (am 0)), (3, .ref ao), (4, .int i)] [] := by
  refine x_aload_n C 1 dL_law_959 rfl ?_
  refine x_aload_n C 0 dL_law_960 rfl ?_
  refine x_iload C 4 dL_law_961 rfl ?_
  refine x_iconst C (v := 1) dL_law_963 (by decide) ?_
  refine x_iadd C dL_law_964 ?_
  refine x_sld C G g1 e1 dL_law_965 ?_
  refine x_aload_n C 0 dL_law_966 rfl ?_
  refine x_iload C 4 dL_law_967 rfl ?_
  refine x_iconst C (v := 2) dL_law_969 (by decide) ?_
  refine x_iadd C dL_law_970 ?_
  refine x_sld C G g2 e2 dL_law_971 ?_
  refine x_aload_n C 0 dL_law_972 rfl ?_
  refine x_iload C 4 dL_law_973 rfl ?_
  refine x_iconst C (v := 3) dL_law_975 (by decide) ?_
  refine x_iadd C dL_law_976 ?_
  refine x_sld C G g3 e3 dL_law_977 ?_
  refine x_aload_n C 3 dL_law_978 rfl ?_
  refine x_ci (mc := 1) (ms := 6) (x_runSW C G.2.2.1 G.2.2.2 (As := [.ref (ad 32), .int a1, .int a2, .int a3, .ref ao]) (rest := []) (c_L_value_th0 hfl h) (cwl_value_th C) rfl (Nat.le_of_ble_eq_true rfl) dL_law_979 ⟨by show kk + 1 ≤ 1094; omega, by show jj + 6 ≤ 10825; omega⟩) ?_
  refine x_istore C (lv' := [(0, .ref b), (1, .ref (ad 32)), (2, .ref (am 0)), (3, .ref ao), (4, .int i), (5, .int 1)]) dL_law_982 (by decide) rfl ?_
  refine x_aload_n C 2 dL_law_984 rfl ?_
  refine x_aload_n C 0 dL_law_985 rfl ?_
  refine x_iload C 4 dL_law_986 rfl ?_
  refine x_iconst C (v := 1) dL_law_988 (by decide) ?_
  refine x_iadd C dL_law_989 ?_
  refine x_sld C G g1 e1 dL_law_990 ?_
  refine x_aload_n C 0 dL_law_991 rfl ?_
  refine x_iload C 4 dL_law_992 rfl ?_
  refine x_iconst C (v := 2) dL_law_994 (by decide) ?_
  refine x_iadd C dL_law_995 ?_
  refine x_sld C G g2 e2 dL_law_996 ?_
  refine x_aload_n C 0 dL_law_997 rfl ?_
  refine x_iload C 4 dL_law_998 rfl ?_
  refine x_iconst C (v := 3) dL_law_1000 (by decide) ?_
  refine x_iadd C dL_law_1001 ?_
  refine x_sld C G g3 e3 dL_law_1002 ?_
  refine x_world (w' := (wM cI cZ am M (wE cI cZ ad S (eo ad (ad 0) (ad 7) (oc ao cJ fo []))))) (wl_EM (D := D)).1 ((wl_EM (D := D)).2 _) ?_
  refine x_ci0 (x_runV C (As := [.int a1, .int a2, .int a3]) (rest := []) (c_X6_value hM) (cwl6_value C) 0 rfl rfl rfl (Nat.le_of_ble_eq_true rfl) dL_law_1003 ⟨by show kk + 1 + 0 ≤ 1094; omega, by show jj + 6 + 0 ≤ 10825; omega⟩) ?_
  refine x_istore C (lv' := [(0, .ref b), (1, .ref (ad 32)), (2, .ref (am 0)), (3, .ref ao), (4, .int i), (5, .int 1), (6, .int vb)]) dL_law_1006 (by decide) rfl ?_
  refine x_aload_n C 2 dL_law_1008 rfl ?_
  refine x_ci0 (x_runV C (As := []) (rest := []) (c_X6_thrown (S := M') (r := M' 0 25) rfl) (cwl6_thrown C) 0 rfl rfl rfl (Nat.le_of_ble_eq_true rfl) dL_law_1009 ⟨by show kk + 1 + 0 ≤ 1094; omega, by show jj + 6 + 0 ≤ 10825; omega⟩) ?_
  refine x_iload C 5 dL_law_1012 rfl ?_
  refine x_icmp_eq C (t := 1019) dL_law_1014 (by decide) (fun _ => ?_) (fun c1 => absurd hth c1)
  refine x_iload C 5 dL_law_1019 rfl ?_
  refine x_if_ne C (t := 1036) dL_law_1021 (by decide) (fun _ => ?_) (fun c1 => absurd c1 (by decide))
  refine x_goto C (t := 1689) dL_law_1036 (by decide) ?_
  refine x_world (w' := (wE cI cZ ad S (eo ad (ad 0) (ad 7) (oc ao cJ fo (wM cI cZ am M' []))))) (wl_ME (D := D)).1 ((wl_ME (D := D)).2 _) ?_
  refine x_locals (lv' := [(0, .ref b), (1, .ref (ad 32)), (2, .ref (am 0)), (3, .ref ao), (4, .int i)]) [0, 1, 2, 3, 4] rfl ?_
  exact K _ _ _ (by omega) (by omega)
set_option maxHeartbeats 8000000 in
set_option maxRecDepth 100000 in
theorem LC_isWhole_ok {p : Program} {l : Launch} {e : Env} {s : State} {m : MethodId} {below : List Frame} {meth : Method} {c : Code} {D : va_G} {cI cZ cJ : ClassId} {ad am : Nat → Nat} {ao b L kk jj : Nat} {xs : Nat → Int32} {S M : St} {fo : Nat → Int64} {i : Int32} {Q : State → Prop} (C : XC p room_1 s m #[Value.ref b] meth c cL_law 7 (some .boolean) RL wsL_law D (t3 cI cZ cJ)) (G : LG s b L xs) (hfl : l.stackTraces = false) (hk : kk + 1 ≤ 1094) (hj : jj + 6 ≤ 10825) {a1 : Int32} {a2 : Int32} (g1 : vp_in (i + 1) L) (e1 : xs (i + 1).toNatClampNeg = a1) (g2 : vp_in (i + 2) L) (e2 : xs (i + 2).toNatClampNeg = a2) {v : Int32} {M' : St} (h : X5_isWhole S a1 a2 = some (0, v)) (hM : X6_isWhole M a1 a2 = some (v, M')) (hth : M' 0 25 = 0) (K : ∀ (fo' : Nat → Int64) (k' j' : Nat), k' ≤ kk + 1 → j' ≤ jj + 6 → XW p l e room_1 s m #[Value.ref b] below meth c D [] 7 Q (wE cI cZ ad S (eo ad (ad 0) (ad 7) (oc ao cJ fo' (wM cI cZ am M' [])))) k' j' 1689 [(0, .ref b), (1, .ref (ad 32)), (2, .ref (am 0)), (3, .ref ao), (4, .int i)] []) : XW p l e room_1 s m #[Value.ref b] below meth c D [] 7 Q (wE cI cZ ad S (eo ad (ad 0) (ad 7) (oc ao cJ fo (wM cI cZ am M [])))) kk jj 1039 [(0, .ref b), (1, .ref (ad 32)), (2, .ref (am 0)), (3, .ref ao), (4, .int i)] [] := by
  refine x_aload_n C 1 dL_law_1039 rfl ?_
  refine x_aload_n C 0 dL_law_1040 rfl ?_
  refine x_iload C 4 dL_law_1041 rfl ?_
  refine x_iconst C (v := 1) dL_law_1043 (by decide) ?_
  refine x_iadd C dL_law_1044 ?_
  refine x_sld C G g1 e1 dL_law_1045 ?_
  refine x_aload_n C 0 dL_law_1046 rfl ?_
  refine x_iload C 4 dL_law_1047 rfl ?_
  refine x_iconst C (v := 2) dL_law_1049 (by decide) ?_
  refine x_iadd C dL_law_1050 ?_
  refine x_sld C G g2 e2 dL_law_1051 ?_
  refine x_aload_n C 3 dL_law_1052 rfl ?_
  refine x_ci (mc := 0) (ms := 0) (x_runSW C G.2.2.1 G.2.2.2 (As := [.ref (ad 32), .int a1, .int a2, .ref ao]) (rest := []) (c_L_isWhole_ok hfl h) (cwl_isWhole C) rfl (Nat.le_of_ble_eq_true rfl) dL_law_1053 ⟨by show kk + 0 ≤ 1094; omega, by show jj + 0 ≤ 10825; omega⟩) ?_
  refine x_istore C (lv' := [(0, .ref b), (1, .ref (ad 32)), (2, .ref (am 0)), (3, .ref ao), (4, .int i), (5, .int 0)]) dL_law_1056 (by decide) rfl ?_
  refine x_aload_n C 2 dL_law_1058 rfl ?_
  refine x_aload_n C 0 dL_law_1059 rfl ?_
  refine x_iload C 4 dL_law_1060 rfl ?_
  refine x_iconst C (v := 1) dL_law_1062 (by decide) ?_
  refine x_iadd C dL_law_1063 ?_
  refine x_sld C G g1 e1 dL_law_1064 ?_
  refine x_aload_n C 0 dL_law_1065 rfl ?_
  refine x_iload C 4 dL_law_1066 rfl ?_
  refine x_iconst C (v := 2) dL_law_1068 (by decide) ?_
  refine x_iadd C dL_law_1069 ?_
  refine x_sld C G g2 e2 dL_law_1070 ?_
  refine x_world (w' := (wM cI cZ am M (wE cI cZ ad S (eo ad (ad 0) (ad 7) (oc ao cJ (vp_updL fo 0 (if v = 0 then 0 else 1)) []))))) (wl_EM (D := D)).1 ((wl_EM (D := D)).2 _) ?_
  refine x_ci0 (x_runV C (As := [.int a1, .int a2]) (rest := []) (c_X6_isWhole hM) (cwl6_isWhole C) 0 rfl rfl rfl (Nat.le_of_ble_eq_true rfl) dL_law_1071 ⟨by show kk + 0 + 0 ≤ 1094; omega, by show jj + 0 + 0 ≤ 10825; omega⟩) ?_
  refine x_istore C (lv' := [(0, .ref b), (1, .ref (ad 32)), (2, .ref (am 0)), (3, .ref ao), (4, .int i), (5, .int 0), (6, .int v)]) dL_law_1074 (by decide) rfl ?_
  refine x_aload_n C 2 dL_law_1076 rfl ?_
  refine x_ci0 (x_runV C (As := []) (rest := []) (c_X6_thrown (S := M') (r := M' 0 25) rfl) (cwl6_thrown C) 0 rfl rfl rfl (Nat.le_of_ble_eq_true rfl) dL_law_1077 ⟨by show kk + 0 + 0 ≤ 1094; omega, by show jj + 0 + 0 ≤ 10825; omega⟩) ?_
  refine x_iload C 5 dL_law_1080 rfl ?_
  refine x_icmp_eq C (t := 1087) dL_law_1082 (by decide) (fun _ => ?_) (fun c1 => absurd hth c1)
  refine x_iload C 5 dL_law_1087 rfl ?_
  refine x_if_ne C (t := 1111) dL_law_1089 (by decide) (fun c1 => absurd rfl c1) (fun _ => ?_)
  refine x_aload_n C 3 dL_law_1092 rfl ?_
  refine x_iconst C (v := 0) dL_law_1093 (by decide) ?_
  refine x_lald C 57 rfl (show ¬ ((0:Int32) < 0 ∨ 1 ≤ (0:Int32).toNatClampNeg) by decide) dL_law_1094 ?_
  refine x_iload C 6 dL_law_1095 rfl ?_
  refine x_if_eq C (t := 1104) dL_law_1097 (by decide) (fun cb => ?_) (fun cb => ?_)
  · refine x_lconst C (v := 0) dL_law_1104 (by decide) ?_
    refine x_lcmp C dL_law_1105 ?_
    refine x_if_eq C (t := 1111) dL_law_1106 (by decide) (fun _ => ?_) (fun c1 => absurd (lg_b0 cb) c1)
    refine x_goto C (t := 1689) dL_law_1111 (by decide) ?_
    refine x_world (w' := (wE cI cZ ad S (eo ad (ad 0) (ad 7) (oc ao cJ (vp_updL fo 0 (if v = 0 then 0 else 1)) (wM cI cZ am M' []))))) (wl_ME (D := D)).1 ((wl_ME (D := D)).2 _) ?_
    refine x_locals (lv' := [(0, .ref b), (1, .ref (ad 32)), (2, .ref (am 0)), (3, .ref ao), (4, .int i)]) [0, 1, 2, 3, 4] rfl ?_
    exact K _ _ _ (by omega) (by omega)
  · refine x_lconst C (v := 1) dL_law_1100 (by decide) ?_
    refine x_goto C (t := 1105) dL_law_1101 (by decide) ?_
    refine x_lcmp C dL_law_1105 ?_
    refine x_if_eq C (t := 1111) dL_law_1106 (by decide) (fun _ => ?_) (fun c1 => absurd (lg_b1 cb) c1)
    refine x_goto C (t := 1689) dL_law_1111 (by decide) ?_
    refine x_world (w' := (wE cI cZ ad S (eo ad (ad 0) (ad 7) (oc ao cJ (vp_updL fo 0 (if v = 0 then 0 else 1)) (wM cI cZ am M' []))))) (wl_ME (D := D)).1 ((wl_ME (D := D)).2 _) ?_
    refine x_locals (lv' := [(0, .ref b), (1, .ref (ad 32)), (2, .ref (am 0)), (3, .ref ao), (4, .int i)]) [0, 1, 2, 3, 4] rfl ?_
    exact K _ _ _ (by omega) (by omega)
set_option maxHeartbeats 8000000 in
set_option maxRecDepth 100000 in
theorem LC_isWhole_th0 {p : Program} {l : Launch} {e : Env} {s : State} {m : MethodId} {below : List Frame} {meth : Method} {c : Code} {D : va_G} {cI cZ cJ : ClassId} {ad am : Nat → Nat} {ao b L kk jj : Nat} {xs : Nat → Int32} {S M : St} {fo : Nat → Int64} {i : Int32} {Q : State → Prop} (C : XC p room_1 s m #[Value.ref b] meth c cL_law 7 (some .boolean) RL wsL_law D (t3 cI cZ cJ)) (G : LG s b L xs) (hfl : l.stackTraces = false) (hk : kk + 1 ≤ 1094) (hj : jj + 6 ≤ 10825) {a1 : Int32} {a2 : Int32} (g1 : vp_in (i + 1) L) (e1 : xs (i + 1).toNatClampNeg = a1) (g2 : vp_in (i + 2) L) (e2 : xs (i + 2).toNatClampNeg = a2) {v : Int32} {vb : Int32} {M' : St} (h : X5_isWhole S a1 a2 = some (1, v)) (hM : X6_isWhole M a1 a2 = some (vb, M')) (hth : M' 0 25 = 1) (K : ∀ (fo' : Nat → Int64) (k' j' : Nat), k' ≤ kk + 1 → j' ≤ jj + 6 → XW p l e room_1 s m #[Value.ref b] below meth c D [] 7 Q (wE cI cZ ad S (eo ad (ad 0) (ad 7) (oc ao cJ fo' (wM cI cZ am M' [])))) k' j' 1689 [(0, .ref b), (1, .ref (ad 32)), (2, .ref (am 0)), (3, .ref ao), (4, .int i)] []) : XW p l e room_1 s m #[Value.ref b] below meth c D [] 7 Q (wE cI cZ ad S (eo ad (ad 0) (ad 7) (oc ao cJ fo (wM cI cZ am M [])))) kk jj 1039 [(0, .ref b), (1, .ref (ad 32)), (2, .ref (am 0)), (3, .ref ao), (4, .int i)] [] := by
  refine x_aload_n C 1 dL_law_1039 rfl ?_
  refine x_aload_n C 0 dL_law_1040 rfl ?_
  refine x_iload C 4 dL_law_1041 rfl ?_
  refine x_iconst C (v := 1) dL_law_1043 (by decide) ?_
  refine x_iadd C dL_law_1044 ?_
  refine x_sld C G g1 e1 dL_law_1045 ?_
  refine x_aload_n C 0 dL_law_1046 rfl ?_
  refine x_iload C 4 dL_law_1047 rfl ?_
  refine x_iconst C (v := 2) dL_law_1049 (by decide) ?_
  refine x_iadd C dL_law_1050 ?_
  refine x_sld C G g2 e2 dL_law_1051 ?_
  refine x_aload_n C 3 dL_law_1052 rfl ?_
  refine x_ci (mc := 1) (ms := 6) (x_runSW C G.2.2.1 G.2.2.2 (As := [.ref (ad 32), .int a1, .int a2, .ref ao]) (rest := []) (c_L_isWhole_th0 hfl h) (cwl_isWhole_th C) rfl (Nat.le_of_ble_eq_true rfl) dL_law_1053 ⟨by show kk + 1 ≤ 1094; omega, by show jj + 6 ≤ 10825; omega⟩) ?_
  refine x_istore C (lv' := [(0, .ref b), (1, .ref (ad 32)), (2, .ref (am 0)), (3, .ref ao), (4, .int i), (5, .int 1)]) dL_law_1056 (by decide) rfl ?_
  refine x_aload_n C 2 dL_law_1058 rfl ?_
  refine x_aload_n C 0 dL_law_1059 rfl ?_
  refine x_iload C 4 dL_law_1060 rfl ?_
  refine x_iconst C (v := 1) dL_law_1062 (by decide) ?_
  refine x_iadd C dL_law_1063 ?_
  refine x_sld C G g1 e1 dL_law_1064 ?_
  refine x_aload_n C 0 dL_law_1065 rfl ?_
  refine x_iload C 4 dL_law_1066 rfl ?_
  refine x_iconst C (v := 2) dL_law_1068 (by decide) ?_
  refine x_iadd C dL_law_1069 ?_
  refine x_sld C G g2 e2 dL_law_1070 ?_
  refine x_world (w' := (wM cI cZ am M (wE cI cZ ad S (eo ad (ad 0) (ad 7) (oc ao cJ fo []))))) (wl_EM (D := D)).1 ((wl_EM (D := D)).2 _) ?_
  refine x_ci0 (x_runV C (As := [.int a1, .int a2]) (rest := []) (c_X6_isWhole hM) (cwl6_isWhole C) 0 rfl rfl rfl (Nat.le_of_ble_eq_true rfl) dL_law_1071 ⟨by show kk + 1 + 0 ≤ 1094; omega, by show jj + 6 + 0 ≤ 10825; omega⟩) ?_
  refine x_istore C (lv' := [(0, .ref b), (1, .ref (ad 32)), (2, .ref (am 0)), (3, .ref ao), (4, .int i), (5, .int 1), (6, .int vb)]) dL_law_1074 (by decide) rfl ?_
  refine x_aload_n C 2 dL_law_1076 rfl ?_
  refine x_ci0 (x_runV C (As := []) (rest := []) (c_X6_thrown (S := M') (r := M' 0 25) rfl) (cwl6_thrown C) 0 rfl rfl rfl (Nat.le_of_ble_eq_true rfl) dL_law_1077 ⟨by show kk + 1 + 0 ≤ 1094; omega, by show jj + 6 + 0 ≤ 10825; omega⟩) ?_
  refine x_iload C 5 dL_law_1080 rfl ?_
  refine x_icmp_eq C (t := 1087) dL_law_1082 (by decide) (fun _ => ?_) (fun c1 => absurd hth c1)
  refine x_iload C 5 dL_law_1087 rfl ?_
  refine x_if_ne C (t := 1111) dL_law_1089 (by decide) (fun _ => ?_) (fun c1 => absurd c1 (by decide))
  refine x_goto C (t := 1689) dL_law_1111 (by decide) ?_
  refine x_world (w' := (wE cI cZ ad S (eo ad (ad 0) (ad 7) (oc ao cJ fo (wM cI cZ am M' []))))) (wl_ME (D := D)).1 ((wl_ME (D := D)).2 _) ?_
  refine x_locals (lv' := [(0, .ref b), (1, .ref (ad 32)), (2, .ref (am 0)), (3, .ref ao), (4, .int i)]) [0, 1, 2, 3, 4] rfl ?_
  exact K _ _ _ (by omega) (by omega)
set_option maxHeartbeats 8000000 in
set_option maxRecDepth 100000 in
theorem LC_find_ok {p : Program} {l : Launch} {e : Env} {s : State} {m : MethodId} {below : List Frame} {meth : Method} {c : Code} {D : va_G} {cI cZ cJ : ClassId} {ad am : Nat → Nat} {ao b L kk jj : Nat} {xs : Nat → Int32} {S M : St} {fo : Nat → Int64} {i : Int32} {Q : State → Prop} (C : XC p room_1 s m #[Value.ref b] meth c cL_law 7 (some .boolean) RL wsL_law D (t3 cI cZ cJ)) (G : LG s b L xs) (hfl : l.stackTraces = false) (hk : kk + 1 ≤ 1094) (hj : jj + 6 ≤ 10825) {a1 : Int32} {a2 : Int32} {a3 : Int32} (g1 : vp_in (i + 1) L) (e1 : xs (i + 1).toNatClampNeg = a1) (g2 : vp_in (i + 2) L) (e2 : xs (i + 2).toNatClampNeg = a2) (g3 : vp_in (i + 3) L) (e3 : xs (i + 3).toNatClampNeg = a3) {v : Int32} {M' : St} (h : X5_find S a1 a2 a3 = some (0, v)) (hM : X6_find M a1 a2 a3 = some (v, M')) (hth : M' 0 25 = 0) (K : ∀ (fo' : Nat → Int64) (k' j' : Nat), k' ≤ kk + 1 → j' ≤ jj + 6 → XW p l e room_1 s m #[Value.ref b] below meth c D [] 7 Q (wE cI cZ ad S (eo ad (ad 0) (ad 7) (oc ao cJ fo' (wM cI cZ am M' [])))) k' j' 1689 [(0, .ref b), (1, .ref (ad 32)), (2, .ref (am 0)), (3, .ref ao), (4, .int i)] []) : XW p l e room_1 s m #[Value.ref b] below meth c D [] 7 Q (wE cI cZ ad S (eo ad (ad 0) (ad 7) (oc ao cJ fo (wM cI cZ am M [])))) kk jj 1114 [(0, .ref b), (1, .ref (ad 32)), (2, .ref (am 0)), (3, .ref ao), (4, .int i)] [] := by
  refine x_aload_n C 1 dL_law_1114 rfl ?_
  refine x_aload_n C 0 dL_law_1115 rfl ?_
  refine x_iload C 4 dL_law_1116 rfl ?_
  refine x_iconst C (v := 1) dL_law_1118 (by decide) ?_
  refine x_iadd C dL_law_1119 ?_
  refine x_sld C G g1 e1 dL_law_1120 ?_
  refine x_aload_n C 0 dL_law_1121 rfl ?_
  refine x_iload C 4 dL_law_1122 rfl ?_
  refine x_iconst C (v := 2) dL_law_1124 (by decide) ?_
  refine x_iadd C dL_law_1125 ?_
  refine x_sld C G g2 e2 dL_law_1126 ?_
  refine x_aload_n C 0 dL_law_1127 rfl ?_
  refine x_iload C 4 dL_law_1128 rfl ?_
  refine x_iconst C (v := 3) dL_law_1130 (by decide) ?_
  refine x_iadd C dL_law_1131 ?_
  refine x_sld C G g3 e3 dL_law_1132 ?_
  refine x_aload_n C 3 dL_law_1133 rfl ?_
  refine x_ci (mc := 0) (ms := 0) (x_runSW C G.2.2.1 G.2.2.2 (As := [.ref (ad 32), .int a1, .int a2, .int a3, .ref ao]) (rest := []) (c_L_find_ok hfl h) (cwl_find C) rfl (Nat.le_of_ble_eq_true rfl) dL_law_1134 ⟨by show kk + 0 ≤ 1094; omega, by show jj + 0 ≤ 10825; omega⟩) ?_
  refine x_istore C (lv' := [(0, .ref b), (1, .ref (ad 32)), (2, .ref (am 0)), (3, .ref ao), (4, .int i), (5, .int 0)]) dL_law_1137 (by decide) rfl ?_
  refine x_aload_n C 2 dL_law_1139 rfl ?_
  refine x_aload_n C 0 dL_law_1140 rfl ?_
  refine x_iload C 4 dL_law_1141 rfl ?_
  refine x_iconst C (v := 1) dL_law_1143 (by decide) ?_
  refine x_iadd C dL_law_1144 ?_
  refine x_sld C G g1 e1 dL_law_1145 ?_
  refine x_aload_n C 0 dL_law_1146 rfl ?_
  refine x_iload C 4 dL_law_1147 rfl ?_
  refine x_iconst C (v := 2) dL_law_1149 (by decide) ?_
  refine x_iadd C dL_law_1150 ?_
  refine x_sld C G g2 e2 dL_law_1151 ?_
  refine x_aload_n C 0 dL_law_1152 rfl ?_
  refine x_iload C 4 dL_law_1153 rfl ?_
  refine x_iconst C (v := 3) dL_law_1155 (by decide) ?_
  refine x_iadd C dL_law_1156 ?_
  refine x_sld C G g3 e3 dL_law_1157 ?_
  refine x_world (w' := (wM cI cZ am M (wE cI cZ ad S (eo ad (ad 0) (ad 7) (oc ao cJ (vp_updL fo 0 v.toInt64) []))))) (wl_EM (D := D)).1 ((wl_EM (D := D)).2 _) ?_
  refine x_ci0 (x_runV C (As := [.int a1, .int a2, .int a3]) (rest := []) (c_X6_find hM) (cwl6_find C) 0 rfl rfl rfl (Nat.le_of_ble_eq_true rfl) dL_law_1158 ⟨by show kk + 0 + 0 ≤ 1094; omega, by show jj + 0 + 0 ≤ 10825; omega⟩) ?_
  refine x_istore C (lv' := [(0, .ref b), (1, .ref (ad 32)), (2, .ref (am 0)), (3, .ref ao), (4, .int i), (5, .int 0), (6, .int v)]) dL_law_1161 (by decide) rfl ?_
  refine x_aload_n C 2 dL_law_1163 rfl ?_
  refine x_ci0 (x_runV C (As := []) (rest := []) (c_X6_thrown (S := M') (r := M' 0 25) rfl) (cwl6_thrown C) 0 rfl rfl rfl (Nat.le_of_ble_eq_true rfl) dL_law_1164 ⟨by show kk + 0 + 0 ≤ 1094; omega, by show jj + 0 + 0 ≤ 10825; omega⟩) ?_
  refine x_iload C 5 dL_law_1167 rfl ?_
  refine x_icmp_eq C (t := 1174) dL_law_1169 (by decide) (fun _ => ?_) (fun c1 => absurd hth c1)
  refine x_iload C 5 dL_law_1174 rfl ?_
  refine x_if_ne C (t := 1191) dL_law_1176 (by decide) (fun c1 => absurd rfl c1) (fun _ => ?_)
  refine x_aload_n C 3 dL_law_1179 rfl ?_
  refine x_iconst C (v := 0) dL_law_1180 (by decide) ?_
  refine x_lald C 57 rfl (show ¬ ((0:Int32) < 0 ∨ 1 ≤ (0:Int32).toNatClampNeg) by decide) dL_law_1181 ?_
  refine x_iload C 6 dL_law_1182 rfl ?_
  refine x_i2l C dL_law_1184 ?_
  refine x_lcmp C dL_law_1185 ?_
  refine x_if_eq C (t := 1191) dL_law_1186 (by decide) (fun _ => ?_) (fun c1 => absurd (lg_self _ _) c1)
  refine x_goto C (t := 1689) dL_law_1191 (by decide) ?_
  refine x_world (w' := (wE cI cZ ad S (eo ad (ad 0) (ad 7) (oc ao cJ (vp_updL fo 0 v.toInt64) (wM cI cZ am M' []))))) (wl_ME (D := D)).1 ((wl_ME (D := D)).2 _) ?_
  refine x_locals (lv' := [(0, .ref b), (1, .ref (ad 32)), (2, .ref (am 0)), (3, .ref ao), (4, .int i)]) [0, 1, 2, 3, 4] rfl ?_
  exact K _ _ _ (by omega) (by omega)
set_option maxHeartbeats 8000000 in
set_option maxRecDepth 100000 in
theorem LC_find_th0 {p : Program} {l : Launch} {e : Env} {s : State} {m : MethodId} {below : List Frame} {meth : Method} {c : Code} {D : va_G} {cI cZ cJ : ClassId} {ad am : Nat → Nat} {ao b L kk jj : Nat} {xs : Nat → Int32} {S M : St} {fo : Nat → Int64} {i : Int32} {Q : State → Prop} (C : XC p room_1 s m #[Value.ref b] meth c cL_law 7 (some .boolean) RL wsL_law D (t3 cI cZ cJ)) (G : LG s b L xs) (hfl : l.stackTraces = false) (hk : kk + 1 ≤ 1094) (hj : jj + 6 ≤ 10825) {a1 : Int32} {a2 : Int32} {a3 : Int32} (g1 : vp_in (i + 1) L) (e1 : xs (i + 1).toNatClampNeg = a1) (g2 : vp_in (i + 2) L) (e2 : xs (i + 2).toNatClampNeg = a2) (g3 : vp_in (i + 3) L) (e3 : xs (i + 3).toNatClampNeg = a3) {v : Int32} {vb : Int32} {M' : St} (h : X5_find S a1 a2 a3 = some (1, v)) (hM : X6_find M a1 a2 a3 = some (vb, M')) (hth : M' 0 25 = 1) (K : ∀ (fo' : Nat → Int64) (k' j' : Nat), k' ≤ kk + 1 → j' ≤ jj + 6 → XW p l e room_1 s m #[Value.ref b] below meth c D [] 7 Q (wE cI cZ ad S (eo ad (ad 0) (ad 7) (oc ao cJ fo' (wM cI cZ am M' [])))) k' j' 1689 [(0, .ref b), (1, .ref (ad 32)), (2, .ref (am 0)), (3, .ref ao), (4, .int i)] []) : XW p l e room_1 s m #[Value.ref b] below meth c D [] 7 Q (wE cI cZ ad S (eo ad (ad 0) (ad 7) (oc ao cJ fo (wM cI cZ am M [])))) kk jj 1114 [(0, .ref b), (1, .ref (ad 32)), (2, .ref (am 0)), (3, .ref ao), (4, .int i)] [] := by
  refine x_aload_n C 1 dL_law_1114 rfl ?_
  refine x_aload_n C 0 dL_law_1115 rfl ?_
  refine x_iload C 4 dL_law_1116 rfl ?_
  refine x_iconst C (v := 1) dL_law_1118 (by decide) ?_
  refine x_iadd C dL_law_1119 ?_
  refine x_sld C G g1 e1 dL_law_1120 ?_
  refine x_aload_n C 0 dL_law_1121 rfl ?_
  refine x_iload C 4 dL_law_1122 rfl ?_
  refine x_iconst C (v := 2) dL_law_1124 (by decide) ?_
  refine x_iadd C dL_law_1125 ?_
  refine x_sld C G g2 e2 dL_law_1126 ?_
  refine x_aload_n C 0 dL_law_1127 rfl ?_
  refine x_iload C 4 dL_law_1128 rfl ?_
  refine x_iconst C (v := 3) dL_law_1130 (by decide) ?_
  refine x_iadd C dL_law_1131 ?_
  refine x_sld C G g3 e3 dL_law_1132 ?_
  refine x_aload_n C 3 dL_law_1133 rfl ?_
  refine x_ci (mc := 1) (ms := 6) (x_runSW C G.2.2.1 G.2.2.2 (As := [.ref (ad 32), .int a1, .int a2, .int a3, .ref ao]) (rest := []) (c_L_find_th0 hfl h) (cwl_find_th C) rfl (Nat.le_of_ble_eq_true rfl) dL_law_1134 ⟨by show kk + 1 ≤ 1094; omega, by show jj + 6 ≤ 10825; omega⟩) ?_
  refine x_istore C (lv' := [(0, .ref b), (1, .ref (ad 32)), (2, .ref (am 0)), (3, .ref ao), (4, .int i), (5, .int 1)]) dL_law_1137 (by decide) rfl ?_
  refine x_aload_n C 2 dL_law_1139 rfl ?_
  refine x_aload_n C 0 dL_law_1140 rfl ?_
  refine x_iload C 4 dL_law_1141 rfl ?_
  refine x_iconst C (v := 1) dL_law_1143 (by decide) ?_
  refine x_iadd C dL_law_1144 ?_
  refine x_sld C G g1 e1 dL_law_1145 ?_
  refine x_aload_n C 0 dL_law_1146 rfl ?_
  refine x_iload C 4 dL_law_1147 rfl ?_
  refine x_iconst C (v := 2) dL_law_1149 (by decide) ?_
  refine x_iadd C dL_law_1150 ?_
  refine x_sld C G g2 e2 dL_law_1151 ?_
  refine x_aload_n C 0 dL_law_1152 rfl ?_
  refine x_iload C 4 dL_law_1153 rfl ?_
  refine x_iconst C (v := 3) dL_law_1155 (by decide) ?_
  refine x_iadd C dL_law_1156 ?_
  refine x_sld C G g3 e3 dL_law_1157 ?_
  refine x_world (w' := (wM cI cZ am M (wE cI cZ ad S (eo ad (ad 0) (ad 7) (oc ao cJ fo []))))) (wl_EM (D := D)).1 ((wl_EM (D := D)).2 _) ?_
  refine x_ci0 (x_runV C (As := [.int a1, .int a2, .int a3]) (rest := []) (c_X6_find hM) (cwl6_find C) 0 rfl rfl rfl (Nat.le_of_ble_eq_true rfl) dL_law_1158 ⟨by show kk + 1 + 0 ≤ 1094; omega, by show jj + 6 + 0 ≤ 10825; omega⟩) ?_
  refine x_istore C (lv' := [(0, .ref b), (1, .ref (ad 32)), (2, .ref (am 0)), (3, .ref ao), (4, .int i), (5, .int 1), (6, .int vb)]) dL_law_1161 (by decide) rfl ?_
  refine x_aload_n C 2 dL_law_1163 rfl ?_
  refine x_ci0 (x_runV C (As := []) (rest := []) (c_X6_thrown (S := M') (r := M' 0 25) rfl) (cwl6_thrown C) 0 rfl rfl rfl (Nat.le_of_ble_eq_true rfl) dL_law_1164 ⟨by show kk + 1 + 0 ≤ 1094; omega, by show jj + 6 + 0 ≤ 10825; omega⟩) ?_
  refine x_iload C 5 dL_law_1167 rfl ?_
  refine x_icmp_eq C (t := 1174) dL_law_1169 (by decide) (fun _ => ?_) (fun c1 => absurd hth c1)
  refine x_iload C 5 dL_law_1174 rfl ?_
  refine x_if_ne C (t := 1191) dL_law_1176 (by decide) (fun _ => ?_) (fun c1 => absurd c1 (by decide))
  refine x_goto C (t := 1689) dL_law_1191 (by decide) ?_
  refine x_world (w' := (wE cI cZ ad S (eo ad (ad 0) (ad 7) (oc ao cJ fo (wM cI cZ am M' []))))) (wl_ME (D := D)).1 ((wl_ME (D := D)).2 _) ?_
  refine x_locals (lv' := [(0, .ref b), (1, .ref (ad 32)), (2, .ref (am 0)), (3, .ref ao), (4, .int i)]) [0, 1, 2, 3, 4] rfl ?_
  exact K _ _ _ (by omega) (by omega)
set_option maxHeartbeats 8000000 in
set_option maxRecDepth 100000 in
theorem LC_find_th1 {p : Program} {l : Launch} {e : Env} {s : State} {m : MethodId} {below : List Frame} {meth : Method} {c : Code} {D : va_G} {cI cZ cJ : ClassId} {ad am : Nat → Nat} {ao b L kk jj : Nat} {xs : Nat → Int32} {S M : St} {fo : Nat → Int64} {i : Int32} {Q : State → Prop} (C : XC p room_1 s m #[Value.ref b] meth c cL_law 7 (some .boolean) RL wsL_law D (t3 cI cZ cJ)) (G : LG s b L xs) (hfl : l.stackTraces = false) (hk : kk + 1 ≤ 1094) (hj : jj + 6 ≤ 10825) {a1 : Int32} {a2 : Int32} {a3 : Int32} (g1 : vp_in (i + 1) L) (e1 : xs (i + 1).toNatClampNeg = a1) (g2 : vp_in (i + 2) L) (e2 : xs (i + 2).toNatClampNeg = a2) (g3 : vp_in (i + 3) L) (e3 : xs (i + 3).toNatClampNeg = a3) {v : Int32} {vb : Int32} {M' : St} (h : X5_find S a1 a2 a3 = some (2, v)) (hM : X6_find M a1 a2 a3 = some (vb, M')) (hth : M' 0 25 = 2) (K : ∀ (fo' : Nat → Int64) (k' j' : Nat), k' ≤ kk + 1 → j' ≤ jj + 6 → XW p l e room_1 s m #[Value.ref b] below meth c D [] 7 Q (wE cI cZ ad S (eo ad (ad 0) (ad 7) (oc ao cJ fo' (wM cI cZ am M' [])))) k' j' 1689 [(0, .ref b), (1, .ref (ad 32)), (2, .ref (am 0)), (3, .ref ao), (4, .int i)] []) : XW p l e room_1 s m #[Value.ref b] below meth c D [] 7 Q (wE cI cZ ad S (eo ad (ad 0) (ad 7) (oc ao cJ fo (wM cI cZ am M [])))) kk jj 1114 [(0, .ref b), (1, .ref (ad 32)), (2, .ref (am 0)), (3, .ref ao), (4, .int i)] [] := by
  refine x_aload_n C 1 dL_law_1114 rfl ?_
  refine x_aload_n C 0 dL_law_1115 rfl ?_
  refine x_iload C 4 dL_law_1116 rfl ?_
  refine x_iconst C (v := 1) dL_law_1118 (by decide) ?_
  refine x_iadd C dL_law_1119 ?_
  refine x_sld C G g1 e1 dL_law_1120 ?_
  refine x_aload_n C 0 dL_law_1121 rfl ?_
  refine x_iload C 4 dL_law_1122 rfl ?_
  refine x_iconst C (v := 2) dL_law_1124 (by decide) ?_
  refine x_iadd C dL_law_1125 ?_
  refine x_sld C G g2 e2 dL_law_1126 ?_
  refine x_aload_n C 0 dL_law_1127 rfl ?_
  refine x_iload C 4 dL_law_1128 rfl ?_
  refine x_iconst C (v := 3) dL_law_1130 (by decide) ?_
  refine x_iadd C dL_law_1131 ?_
  refine x_sld C G g3 e3 dL_law_1132 ?_
  refine x_aload_n C 3 dL_law_1133 rfl ?_
  refine x_ci (mc := 1) (ms := 6) (x_runSW C G.2.2.1 G.2.2.2 (As := [.ref (ad 32), .int a1, .int a2, .int a3, .ref ao]) (rest := []) (c_L_find_th1 hfl h) (cwl_find_th C) rfl (Nat.le_of_ble_eq_true rfl) dL_law_1134 ⟨by show kk + 1 ≤ 1094; omega, by show jj + 6 ≤ 10825; omega⟩) ?_
  refine x_istore C (lv' := [(0, .ref b), (1, .ref (ad 32)), (2, .ref (am 0)), (3, .ref ao), (4, .int i), (5, .int 2)]) dL_law_1137 (by decide) rfl ?_
  refine x_aload_n C 2 dL_law_1139 rfl ?_
  refine x_aload_n C 0 dL_law_1140 rfl ?_
  refine x_iload C 4 dL_law_1141 rfl ?_
  refine x_iconst C (v := 1) dL_law_1143 (by decide) ?_
  refine x_iadd C dL_law_1144 ?_
  refine x_sld C G g1 e1 dL_law_1145 ?_
  refine x_aload_n C 0 dL_law_1146 rfl ?_
  refine x_iload C 4 dL_law_1147 rfl ?_
  refine x_iconst C (v := 2) dL_law_1149 (by decide) ?_
  refine x_iadd C dL_law_1150 ?_
  refine x_sld C G g2 e2 dL_law_1151 ?_
  refine x_aload_n C 0 dL_law_1152 rfl ?_
  refine x_iload C 4 dL_law_1153 rfl ?_
  refine x_iconst C (v := 3) dL_law_1155 (by decide) ?_
  refine x_iadd C dL_law_1156 ?_
  refine x_sld C G g3 e3 dL_law_1157 ?_
  refine x_world (w' := (wM cI cZ am M (wE cI cZ ad S (eo ad (ad 0) (ad 7) (oc ao cJ fo []))))) (wl_EM (D := D)).1 ((wl_EM (D := D)).2 _) ?_
  refine x_ci0 (x_runV C (As := [.int a1, .int a2, .int a3]) (rest := []) (c_X6_find hM) (cwl6_find C) 0 rfl rfl rfl (Nat.le_of_ble_eq_true rfl) dL_law_1158 ⟨by show kk + 1 + 0 ≤ 1094; omega, by show jj + 6 + 0 ≤ 10825; omega⟩) ?_
  refine x_istore C (lv' := [(0, .ref b), (1, .ref (ad 32)), (2, .ref (am 0)), (3, .ref ao), (4, .int i), (5, .int 2), (6, .int vb)]) dL_law_1161 (by decide) rfl ?_
  refine x_aload_n C 2 dL_law_1163 rfl ?_
  refine x_ci0 (x_runV C (As := []) (rest := []) (c_X6_thrown (S := M') (r := M' 0 25) rfl) (cwl6_thrown C) 0 rfl rfl rfl (Nat.le_of_ble_eq_true rfl) dL_law_1164 ⟨by show kk + 1 + 0 ≤ 1094; omega, by show jj + 6 + 0 ≤ 10825; omega⟩) ?_
  refine x_iload C 5 dL_law_1167 rfl ?_
  refine x_icmp_eq C (t := 1174) dL_law_1169 (by decide) (fun _ => ?_) (fun c1 => absurd hth c1)
  refine x_iload C 5 dL_law_1174 rfl ?_
  refine x_if_ne C (t := 1191) dL_law_1176 (by decide) (fun _ => ?_) (fun c1 => absurd c1 (by decide))
  refine x_goto C (t := 1689) dL_law_1191 (by decide) ?_
  refine x_world (w' := (wE cI cZ ad S (eo ad (ad 0) (ad 7) (oc ao cJ fo (wM cI cZ am M' []))))) (wl_ME (D := D)).1 ((wl_ME (D := D)).2 _) ?_
  refine x_locals (lv' := [(0, .ref b), (1, .ref (ad 32)), (2, .ref (am 0)), (3, .ref ao), (4, .int i)]) [0, 1, 2, 3, 4] rfl ?_
  exact K _ _ _ (by omega) (by omega)
set_option maxHeartbeats 8000000 in
set_option maxRecDepth 100000 in
theorem LC_areAlike_ok {p : Program} {l : Launch} {e : Env} {s : State} {m : MethodId} {below : List Frame} {meth : Method} {c : Code} {D : va_G} {cI cZ cJ : ClassId} {ad am : Nat → Nat} {ao b L kk jj : Nat} {xs : Nat → Int32} {S M : St} {fo : Nat → Int64} {i : Int32} {Q : State → Prop} (C : XC p room_1 s m #[Value.ref b] meth c cL_law 7 (some .boolean) RL wsL_law D (t3 cI cZ cJ)) (G : LG s b L xs) (hfl : l.stackTraces = false) (hk : kk + 1 ≤ 1094) (hj : jj + 6 ≤ 10825) {v : Int32} {M' : St} (h : X5_areAlike S = some v) (hM : X6_areAlike M = some (v, M')) (K : ∀ (fo' : Nat → Int64) (k' j' : Nat), k' ≤ kk + 1 → j' ≤ jj + 6 → XW p l e room_1 s m #[Value.ref b] below meth c D [] 7 Q (wE cI cZ ad S (eo ad (ad 0) (ad 7) (oc ao cJ fo' (wM cI cZ am M' [])))) k' j' 1689 [(0, .ref b), (1, .ref (ad 32)), (2, .ref (am 0)), (3, .ref ao), (4, .int i)] []) : XW p l e room_1 s m #[Value.ref b] below meth c D [] 7 Q (wE cI cZ ad S (eo ad (ad 0) (ad 7) (oc ao cJ fo (wM cI cZ am M [])))) kk jj 1194 [(0, .ref b), (1, .ref (ad 32)), (2, .ref (am 0)), (3, .ref ao), (4, .int i)] [] := by
  refine x_aload_n C 1 dL_law_1194 rfl ?_
  refine x_ci0 (x_runV C (As := []) (rest := []) (c_X5_areAlike h) (cwl5_areAlike C) 32 rfl rfl rfl (Nat.le_of_ble_eq_true rfl) dL_law_1195 ⟨by show kk + 0 ≤ 1094; omega, by show jj + 0 ≤ 10825; omega⟩) ?_
  refine x_aload_n C 2 dL_law_1198 rfl ?_
  refine x_world (w' := (wM cI cZ am M (wE cI cZ ad S (eo ad (ad 0) (ad 7) (oc ao cJ fo []))))) (wl_EM (D := D)).1 ((wl_EM (D := D)).2 _) ?_
  refine x_ci0 (x_runV C (As := []) (rest := [.int v]) (c_X6_areAlike hM) (cwl6_areAlike C) 0 rfl rfl rfl (Nat.le_of_ble_eq_true rfl) dL_law_1199 ⟨by show kk + 0 ≤ 1094; omega, by show jj + 0 ≤ 10825; omega⟩) ?_
  refine x_icmp_eq C (t := 1689) dL_law_1202 (by decide) (fun _ => ?_) (fun c1 => absurd rfl c1)
  refine x_world (w' := (wE cI cZ ad S (eo ad (ad 0) (ad 7) (oc ao cJ fo (wM cI cZ am M' []))))) (wl_ME (D := D)).1 ((wl_ME (D := D)).2 _) ?_
  exact K _ _ _ (by omega) (by omega)
set_option maxHeartbeats 8000000 in
set_option maxRecDepth 100000 in
theorem LC_setRight_ok {p : Program} {l : Launch} {e : Env} {s : State} {m : MethodId} {below : List Frame} {meth : Method} {c : Code} {D : va_G} {cI cZ cJ : ClassId} {ad am : Nat → Nat} {ao b L kk jj : Nat} {xs : Nat → Int32} {S M : St} {fo : Nat → Int64} {i : Int32} {Q : State → Prop} (C : XC p room_1 s m #[Value.ref b] meth c cL_law 7 (some .boolean) RL wsL_law D (t3 cI cZ cJ)) (G : LG s b L xs) (hfl : l.stackTraces = false) (hk : kk + 1 ≤ 1094) (hj : jj + 6 ≤ 10825) {a1 : Int32} {a2 : Int32} {a3 : Int32} (g1 : vp_in (i + 1) L) (e1 : xs (i + 1).toNatClampNeg = a1) (g2 : vp_in (i + 2) L) (e2 : xs (i + 2).toNatClampNeg = a2) (g3 : vp_in (i + 3) L) (e3 : xs (i + 3).toNatClampNeg = a3) {S' : St} {M' : St} (h : X5_setRight S a1 a2 a3 = some (0, S')) (hM : X6_setRight M a1 a2 a3 = some M') (hth : M' 0 25 = 0) (K : ∀ (fo' : Nat → Int64) (k' j' : Nat), k' ≤ kk + 1 → j' ≤ jj + 6 → XW p l e room_1 s m #[Value.ref b] below meth c D [] 7 Q (wE cI cZ ad S' (eo ad (ad 0) (ad 7) (oc ao cJ fo' (wM cI cZ am M' [])))) k' j' 1689 [(0, .ref b), (1, .ref (ad 32)), (2, .ref (am 0)), (3, .ref ao), (4, .int i)] []) : XW p l e room_1 s m #[Value.ref b] below meth c D [] 7 Q (wE cI cZ ad S (eo ad (ad 0) (ad 7) (oc ao cJ fo (wM cI cZ am M [])))) kk jj 1207 [(0, .ref b), (1, .ref (ad 32)), (2, .ref (am 0)), (3, .ref ao), (4, .int i)] [] := by
  refine x_aload_n C 1 dL_law_1207 rfl ?_
  refine x_aload_n C 0 dL_law_1208 rfl ?_
  refine x_iload C 4 dL_law_1209 rfl ?_
  refine x_iconst C (v := 1) dL_law_1211 (by decide) ?_
  refine x_iadd C dL_law_1212 ?_
  refine x_sld C G g1 e1 dL_law_1213 ?_
  refine x_aload_n C 0 dL_law_1214 rfl ?_
  refine x_iload C 4 dL_law_1215 rfl ?_
  refine x_iconst C (v := 2) dL_law_1217 (by decide) ?_
  refine x_iadd C dL_law_1218 ?_
  refine x_sld C G g2 e2 dL_law_1219 ?_
  refine x_aload_n C 0 dL_law_1220 rfl ?_
  refine x_iload C 4 dL_law_1221 rfl ?_
  refine x_iconst C (v := 3) dL_law_1223 (by decide) ?_
  refine x_iadd C dL_law_1224 ?_
  refine x_sld C G g3 e3 dL_law_1225 ?_
  refine x_ci (mc := 0) (ms := 0) (x_runSW C G.2.2.1 G.2.2.2 (As := [.ref (ad 32), .int a1, .int a2, .int a3]) (rest := []) (c_L_setRight_ok hfl h) (cwl_setRight C) rfl (Nat.le_of_ble_eq_true rfl) dL_law_1226 ⟨by show kk + 0 ≤ 1094; omega, by show jj + 0 ≤ 10825; omega⟩) ?_
  refine x_istore C (lv' := [(0, .ref b), (1, .ref (ad 32)), (2, .ref (am 0)), (3, .ref ao), (4, .int i), (5, .int 0)]) dL_law_1229 (by decide) rfl ?_
  refine x_aload_n C 2 dL_law_1231 rfl ?_
  refine x_aload_n C 0 dL_law_1232 rfl ?_
  refine x_iload C 4 dL_law_1233 rfl ?_
  refine x_iconst C (v := 1) dL_law_1235 (by decide) ?_
  refine x_iadd C dL_law_1236 ?_
  refine x_sld C G g1 e1 dL_law_1237 ?_
  refine x_aload_n C 0 dL_law_1238 rfl ?_
  refine x_iload C 4 dL_law_1239 rfl ?_
  refine x_iconst C (v := 2) dL_law_1241 (by decide) ?_
  refine x_iadd C dL_law_1242 ?_
  refine x_sld C G g2 e2 dL_law_1243 ?_
  refine x_aload_n C 0 dL_law_1244 rfl ?_
  refine x_iload C 4 dL_law_1245 rfl ?_
  refine x_iconst C (v := 3) dL_law_1247 (by decide) ?_
  refine x_iadd C dL_law_1248 ?_
  refine x_sld C G g3 e3 dL_law_1249 ?_
  refine x_world (w' := (wM cI cZ am M (wE cI cZ ad S' (eo ad (ad 0) (ad 7) (oc ao cJ fo []))))) (wl_EM (D := D)).1 ((wl_EM (D := D)).2 _) ?_
  refine x_cv0 (x_runV C (As := [.int a1, .int a2, .int a3]) (rest := []) (c_X6_setRight hM) (cwl6_setRight C) 0 rfl rfl rfl (Nat.le_of_ble_eq_true rfl) dL_law_1250 ⟨by show kk + 0 + 0 ≤ 1094; omega, by show jj + 0 + 0 ≤ 10825; omega⟩) ?_
  refine x_aload_n C 2 dL_law_1253 rfl ?_
  refine x_ci0 (x_runV C (As := []) (rest := []) (c_X6_thrown (S := M') (r := M' 0 25) rfl) (cwl6_thrown C) 0 rfl rfl rfl (Nat.le_of_ble_eq_true rfl) dL_law_1254 ⟨by show kk + 0 + 0 ≤ 1094; omega, by show jj + 0 + 0 ≤ 10825; omega⟩) ?_
  refine x_iload C 5 dL_law_1257 rfl ?_
  refine x_icmp_eq C (t := 1264) dL_law_1259 (by decide) (fun _ => ?_) (fun c1 => absurd hth c1)
  refine x_goto C (t := 1689) dL_law_1264 (by decide) ?_
  refine x_world (w' := (wE cI cZ ad S' (eo ad (ad 0) (ad 7) (oc ao cJ fo (wM cI cZ am M' []))))) (wl_ME (D := D)).1 ((wl_ME (D := D)).2 _) ?_
  refine x_locals (lv' := [(0, .ref b), (1, .ref (ad 32)), (2, .ref (am 0)), (3, .ref ao), (4, .int i)]) [0, 1, 2, 3, 4] rfl ?_
  exact K _ _ _ (by omega) (by omega)
set_option maxHeartbeats 8000000 in
set_option maxRecDepth 100000 in
theorem LC_setRight_th0 {p : Program} {l : Launch} {e : Env} {s : State} {m : MethodId} {below : List Frame} {meth : Method} {c : Code} {D : va_G} {cI cZ cJ : ClassId} {ad am : Nat → Nat} {ao b L kk jj : Nat} {xs : Nat → Int32} {S M : St} {fo : Nat → Int64} {i : Int32} {Q : State → Prop} (C : XC p room_1 s m #[Value.ref b] meth c cL_law 7 (some .boolean) RL wsL_law D (t3 cI cZ cJ)) (G : LG s b L xs) (hfl : l.stackTraces = false) (hk : kk + 1 ≤ 1094) (hj : jj + 6 ≤ 10825) {a1 : Int32} {a2 : Int32} {a3 : Int32} (g1 : vp_in (i + 1) L) (e1 : xs (i + 1).toNatClampNeg = a1) (g2 : vp_in (i + 2) L) (e2 : xs (i + 2).toNatClampNeg = a2) (g3 : vp_in (i + 3) L) (e3 : xs (i + 3).toNatClampNeg = a3) {S' : St} {M' : St} (h : X5_setRight S a1 a2 a3 = some (1, S')) (hM : X6_setRight M a1 a2 a3 = some M') (hth : M' 0 25 = 1) (K : ∀ (fo' : Nat → Int64) (k' j' : Nat), k' ≤ kk + 1 → j' ≤ jj + 6 → XW p l e room_1 s m #[Value.ref b] below meth c D [] 7 Q (wE cI cZ ad S' (eo ad (ad 0) (ad 7) (oc ao cJ fo' (wM cI cZ am M' [])))) k' j' 1689 [(0, .ref b), (1, .ref (ad 32)), (2, .ref (am 0)), (3, .ref ao), (4, .int i)] []) : XW p l e room_1 s m #[Value.ref b] below meth c D [] 7 Q (wE cI cZ ad S (eo ad (ad 0) (ad 7) (oc ao cJ fo (wM cI cZ am M [])))) kk jj 1207 [(0, .ref b), (1, .ref (ad 32)), (2, .ref (am 0)), (3, .ref ao), (4, .int i)] [] := by
  refine x_aload_n C 1 dL_law_1207 rfl ?_
  refine x_aload_n C 0 dL_law_1208 rfl ?_
  refine x_iload C 4 dL_law_1209 rfl ?_
  refine x_iconst C (v := 1) dL_law_1211 (by decide) ?_
  refine x_iadd C dL_law_1212 ?_
  refine x_sld C G g1 e1 dL_law_1213 ?_
  refine x_aload_n C 0 dL_law_1214 rfl ?_
  refine x_iload C 4 dL_law_1215 rfl ?_
  refine x_iconst C (v := 2) dL_law_1217 (by decide) ?_
  refine x_iadd C dL_law_1218 ?_
  refine x_sld C G g2 e2 dL_law_1219 ?_
  refine x_aload_n C 0 dL_law_1220 rfl ?_
  refine x_iload C 4 dL_law_1221 rfl ?_
  refine x_iconst C (v := 3) dL_law_1223 (by decide) ?_
  refine x_iadd C dL_law_1224 ?_
  refine x_sld C G g3 e3 dL_law_1225 ?_
  refine x_ci (mc := 1) (ms := 6) (x_runSW C G.2.2.1 G.2.2.2 (As := [.ref (ad 32), .int a1, .int a2, .int a3]) (rest := []) (c_L_setRight_th0 hfl h) (cwl_setRight_th C) rfl (Nat.le_of_ble_eq_true rfl) dL_law_1226 ⟨by show kk + 1 ≤ 1094; omega, by show jj + 6 ≤ 10825; omega⟩) ?_
  refine x_istore C (lv' := [(0, .ref b), (1, .ref (ad 32)), (2, .ref (am 0)), (3, .ref ao), (4, .int i), (5, .int 1)]) dL_law_1229 (by decide) rfl ?_
  refine x_aload_n C 2 dL_law_1231 rfl ?_
  refine x_aload_n C 0 dL_law_1232 rfl ?_
  refine x_iload C 4 dL_law_1233 rfl ?_
  refine x_iconst C (v := 1) dL_law_1235 (by decide) ?_
  refine x_iadd C dL_law_1236 ?_
  refine x_sld C G g1 e1 dL_law_1237 ?_
  refine x_aload_n C 0 dL_law_1238 rfl ?_
  refine x_iload C 4 dL_law_1239 rfl ?_
  refine x_iconst C (v := 2) dL_law_1241 (by decide) ?_
  refine x_iadd C dL_law_1242 ?_
  refine x_sld C G g2 e2 dL_law_1243 ?_
  refine x_aload_n C 0 dL_law_1244 rfl ?_
  refine x_iload C 4 dL_law_1245 rfl ?_
  refine x_iconst C (v := 3) dL_law_1247 (by decide) ?_
  refine x_iadd C dL_law_1248 ?_
  refine x_sld C G g3 e3 dL_law_1249 ?_
  refine x_world (w' := (wM cI cZ am M (wE cI cZ ad S' (eo ad (ad 0) (ad 7) (oc ao cJ fo []))))) (wl_EM (D := D)).1 ((wl_EM (D := D)).2 _) ?_
  refine x_cv0 (x_runV C (As := [.int a1, .int a2, .int a3]) (rest := []) (c_X6_setRight hM) (cwl6_setRight C) 0 rfl rfl rfl (Nat.le_of_ble_eq_true rfl) dL_law_1250 ⟨by show kk + 1 + 0 ≤ 1094; omega, by show jj + 6 + 0 ≤ 10825; omega⟩) ?_
  refine x_aload_n C 2 dL_law_1253 rfl ?_
  refine x_ci0 (x_runV C (As := []) (rest := []) (c_X6_thrown (S := M') (r := M' 0 25) rfl) (cwl6_thrown C) 0 rfl rfl rfl (Nat.le_of_ble_eq_true rfl) dL_law_1254 ⟨by show kk + 1 + 0 ≤ 1094; omega, by show jj + 6 + 0 ≤ 10825; omega⟩) ?_
  refine x_iload C 5 dL_law_1257 rfl ?_
  refine x_icmp_eq C (t := 1264) dL_law_1259 (by decide) (fun _ => ?_) (fun c1 => absurd hth c1)
  refine x_goto C (t := 1689) dL_law_1264 (by decide) ?_
  refine x_world (w' := (wE cI cZ ad S' (eo ad (ad 0) (ad 7) (oc ao cJ fo (wM cI cZ am M' []))))) (wl_ME (D := D)).1 ((wl_ME (D := D)).2 _) ?_
  refine x_locals (lv' := [(0, .ref b), (1, .ref (ad 32)), (2, .ref (am 0)), (3, .ref ao), (4, .int i)]) [0, 1, 2, 3, 4] rfl ?_
  exact K _ _ _ (by omega) (by omega)
set_option maxHeartbeats 8000000 in
set_option maxRecDepth 100000 in
theorem LC_setRight_th1 {p : Program} {l : Launch} {e : Env} {s : State} {m : MethodId} {below : List Frame} {meth : Method} {c : Code} {D : va_G} {cI cZ cJ : ClassId} {ad am : Nat → Nat} {ao b L kk jj : Nat} {xs : Nat → Int32} {S M : St} {fo : Nat → Int64} {i : Int32} {Q : State → Prop} (C : XC p room_1 s m #[Value.ref b] meth c cL_law 7 (some .boolean) RL wsL_law D (t3 cI cZ cJ)) (G : LG s b L xs) (hfl : l.stackTraces = false) (hk : kk + 1 ≤ 1094) (hj : jj + 6 ≤ 10825) {a1 : Int32} {a2 : Int32} {a3 : Int32} (g1 : vp_in (i + 1) L) (e1 : xs (i + 1).toNatClampNeg = a1) (g2 : vp_in (i + 2) L) (e2 : xs (i + 2).toNatClampNeg = a2) (g3 : vp_in (i + 3) L) (e3 : xs (i + 3).toNatClampNeg = a3) {S' : St} {M' : St} (h : X5_setRight S a1 a2 a3 = some (2, S')) (hM : X6_setRight M a1 a2 a3 = some M') (hth : M' 0 25 = 2) (K : ∀ (fo' : Nat → Int64) (k' j' : Nat), k' ≤ kk + 1 → j' ≤ jj + 6 → XW p l e room_1 s m #[Value.ref b] below meth c D [] 7 Q (wE cI cZ ad S' (eo ad (ad 0) (ad 7) (oc ao cJ fo' (wM cI cZ am M' [])))) k' j' 1689 [(0, .ref b), (1, .ref (ad 32)), (2, .ref (am 0)), (3, .ref ao), (4, .int i)] []) : XW p l e room_1 s m #[Value.ref b] below meth c D [] 7 Q (wE cI cZ ad S (eo ad (ad 0) (ad 7) (oc ao cJ fo (wM cI cZ am M [])))) kk jj 1207 [(0, .ref b), (1, .ref (ad 32)), (2, .ref (am 0)), (3, .ref ao), (4, .int i)] [] := by
  refine x_aload_n C 1 dL_law_1207 rfl ?_
  refine x_aload_n C 0 dL_law_1208 rfl ?_
  refine x_iload C 4 dL_law_1209 rfl ?_
  refine x_iconst C (v := 1) dL_law_1211 (by decide) ?_
  refine x_iadd C dL_law_1212 ?_
  refine x_sld C G g1 e1 dL_law_1213 ?_
  refine x_aload_n C 0 dL_law_1214 rfl ?_
  refine x_iload C 4 dL_law_1215 rfl ?_
  refine x_iconst C (v := 2) dL_law_1217 (by decide) ?_
  refine x_iadd C dL_law_1218 ?_
  refine x_sld C G g2 e2 dL_law_1219 ?_
  refine x_aload_n C 0 dL_law_1220 rfl ?_
  refine x_iload C 4 dL_law_1221 rfl ?_
  refine x_iconst C (v := 3) dL_law_1223 (by decide) ?_
  refine x_iadd C dL_law_1224 ?_
  refine x_sld C G g3 e3 dL_law_1225 ?_
  refine x_ci (mc := 1) (ms := 6) (x_runSW C G.2.2.1 G.2.2.2 (As := [.ref (ad 32), .int a1, .int a2, .int a3]) (rest := []) (c_L_setRight_th1 hfl h) (cwl_setRight_th C) rfl (Nat.le_of_ble_eq_true rfl) dL_law_1226 ⟨by show kk + 1 ≤ 1094; omega, by show jj + 6 ≤ 10825; omega⟩) ?_
  refine x_istore C (lv' := [(0, .ref b), (1, .ref (ad 32)), (2, .ref (am 0)), (3, .ref ao), (4, .int i), (5, .int 2)]) dL_law_1229 (by decide) rfl ?_
  refine x_aload_n C 2 dL_law_1231 rfl ?_
  refine x_aload_n C 0 dL_law_1232 rfl ?_
  refine x_iload C 4 dL_law_1233 rfl ?_
  refine x_iconst C (v := 1) dL_law_1235 (by decide) ?_
  refine x_iadd C dL_law_1236 ?_
  refine x_sld C G g1 e1 dL_law_1237 ?_
  refine x_aload_n C 0 dL_law_1238 rfl ?_
  refine x_iload C 4 dL_law_1239 rfl ?_
  refine x_iconst C (v := 2) dL_law_1241 (by decide) ?_
  refine x_iadd C dL_law_1242 ?_
  refine x_sld C G g2 e2 dL_law_1243 ?_
  refine x_aload_n C 0 dL_law_1244 rfl ?_
  refine x_iload C 4 dL_law_1245 rfl ?_
  refine x_iconst C (v := 3) dL_law_1247 (by decide) ?_
  refine x_iadd C dL_law_1248 ?_
  refine x_sld C G g3 e3 dL_law_1249 ?_
  refine x_world (w' := (wM cI cZ am M (wE cI cZ ad S' (eo ad (ad 0) (ad 7) (oc ao cJ fo []))))) (wl_EM (D := D)).1 ((wl_EM (D := D)).2 _) ?_
  refine x_cv0 (x_runV C (As := [.int a1, .int a2, .int a3]) (rest := []) (c_X6_setRight hM) (cwl6_setRight C) 0 rfl rfl rfl (Nat.le_of_ble_eq_true rfl) dL_law_1250 ⟨by show kk + 1 + 0 ≤ 1094; omega, by show jj + 6 + 0 ≤ 10825; omega⟩) ?_
  refine x_aload_n C 2 dL_law_1253 rfl ?_
  refine x_ci0 (x_runV C (As := []) (rest := []) (c_X6_thrown (S := M') (r := M' 0 25) rfl) (cwl6_thrown C) 0 rfl rfl rfl (Nat.le_of_ble_eq_true rfl) dL_law_1254 ⟨by show kk + 1 + 0 ≤ 1094; omega, by show jj + 6 + 0 ≤ 10825; omega⟩) ?_
  refine x_iload C 5 dL_law_1257 rfl ?_
  refine x_icmp_eq C (t := 1264) dL_law_1259 (by decide) (fun _ => ?_) (fun c1 => absurd hth c1)
  refine x_goto C (t := 1689) dL_law_1264 (by decide) ?_
  refine x_world (w' := (wE cI cZ ad S' (eo ad (ad 0) (ad 7) (oc ao cJ fo (wM cI cZ am M' []))))) (wl_ME (D := D)).1 ((wl_ME (D := D)).2 _) ?_
  refine x_locals (lv' := [(0, .ref b), (1, .ref (ad 32)), (2, .ref (am 0)), (3, .ref ao), (4, .int i)]) [0, 1, 2, 3, 4] rfl ?_
  exact K _ _ _ (by omega) (by omega)
set_option maxHeartbeats 8000000 in
set_option maxRecDepth 100000 in
theorem LC_refer_ok_0 {p : Program} {l : Launch} {e : Env} {s : State} {m : MethodId} {below : List Frame} {meth : Method} {c : Code} {D : va_G} {cI cZ cJ : ClassId} {ad am : Nat → Nat} {ao b L kk jj : Nat} {xs : Nat → Int32} {S M : St} {fo : Nat → Int64} {i : Int32} {Q : State → Prop} (C : XC p room_1 s m #[Value.ref b] meth c cL_law 7 (some .boolean) RL wsL_law D (t3 cI cZ cJ)) (G : LG s b L xs) (hfl : l.stackTraces = false) (hk : kk + 1 ≤ 1094) (hj : jj + 6 ≤ 10825) {a1 : Int32} {a2 : Int32} (g1 : vp_in (i + 1) L) (e1 : xs (i + 1).toNatClampNeg = a1) (g2 : vp_in (i + 2) L) (e2 : xs (i + 2).toNatClampNeg = a2) (hz : a2 = 0) {S' : St} {M' : St} (h : X5_refer S a1 0 = some (0, S')) (hM : X6_refer M a1 0 = some M') (hth : M' 0 25 = 0) (K : ∀ (fo' : Nat → Int64) (k' j' : Nat), k' ≤ kk + 1 → j' ≤ jj + 6 → XW p l e room_1 s m #[Value.ref b] below meth c D [] 7 Q (wE cI cZ ad S' (eo ad (ad 0) (ad 7) (oc ao cJ fo' (wM cI cZ am M' [])))) k' j' 1689 [(0, .ref b), (1, .ref (ad 32)), (2, .ref (am 0)), (3, .ref ao), (4, .int i)] []) : XW p l e room_1 s m #[Value.ref b] below meth c D [] 7 Q (wE cI cZ ad S (eo ad (ad 0) (ad 7) (oc ao cJ fo (wM cI cZ am M [])))) kk jj 1267 [(0, .ref b), (1, .ref (ad 32)), (2, .ref (am 0)), (3, .ref ao), (4, .int i)] [] := by
  refine x_aload_n C 1 dL_law_1267 rfl ?_
  refine x_aload_n C 0 dL_law_1268 rfl ?_
  refine x_iload C 4 dL_law_1269 rfl ?_
  refine x_iconst C (v := 1) dL_law_1271 (by decide) ?_
  refine x_iadd C dL_law_1272 ?_
  refine x_sld C G g1 e1 dL_law_1273 ?_
  refine x_aload_n C 0 dL_law_1274 rfl ?_
  refine x_iload C 4 dL_law_1275 rfl ?_
  refine x_iconst C (v := 2) dL_law_1277 (by decide) ?_
  refine x_iadd C dL_law_1278 ?_
  refine x_sld C G g2 e2 dL_law_1279 ?_
  refine x_if_eq C (t := 1287) dL_law_1280 (by decide) (fun _ => ?_) (fun c1 => absurd hz c1)
  refine x_iconst C (v := 0) dL_law_1287 (by decide) ?_
  refine x_ci (mc := 0) (ms := 0) (x_runSW C G.2.2.1 G.2.2.2 (As := [.ref (ad 32), .int a1, .int 0]) (rest := []) (c_L_refer_ok hfl h) (cwl_refer C) rfl (Nat.le_of_ble_eq_true rfl) dL_law_1288 ⟨by show kk + 0 ≤ 1094; omega, by show jj + 0 ≤ 10825; omega⟩) ?_
  refine x_istore C (lv' := [(0, .ref b), (1, .ref (ad 32)), (2, .ref (am 0)), (3, .ref ao), (4, .int i), (5, .int 0)]) dL_law_1291 (by decide) rfl ?_
  refine x_aload_n C 2 dL_law_1293 rfl ?_
  refine x_aload_n C 0 dL_law_1294 rfl ?_
  refine x_iload C 4 dL_law_1295 rfl ?_
  refine x_iconst C (v := 1) dL_law_1297 (by decide) ?_
  refine x_iadd C dL_law_1298 ?_
  refine x_sld C G g1 e1 dL_law_1299 ?_
  refine x_aload_n C 0 dL_law_1300 rfl ?_
  refine x_iload C 4 dL_law_1301 rfl ?_
  refine x_iconst C (v := 2) dL_law_1303 (by decide) ?_
  refine x_iadd C dL_law_1304 ?_
  refine x_sld C G g2 e2 dL_law_1305 ?_
  refine x_if_eq C (t := 1313) dL_law_1306 (by decide) (fun _ => ?_) (fun c1 => absurd hz c1)
  refine x_iconst C (v := 0) dL_law_1313 (by decide) ?_
  refine x_world (w' := (wM cI cZ am M (wE cI cZ ad S' (eo ad (ad 0) (ad 7) (oc ao cJ fo []))))) (wl_EM (D := D)).1 ((wl_EM (D := D)).2 _) ?_
  refine x_cv0 (x_runV C (As := [.int a1, .int 0]) (rest := []) (c_X6_refer hM) (cwl6_refer C) 0 rfl rfl rfl (Nat.le_of_ble_eq_true rfl) dL_law_1314 ⟨by show kk + 0 + 0 ≤ 1094; omega, by show jj + 0 + 0 ≤ 10825; omega⟩) ?_
  refine x_aload_n C 2 dL_law_1317 rfl ?_
  refine x_ci0 (x_runV C (As := []) (rest := []) (c_X6_thrown (S := M') (r := M' 0 25) rfl) (cwl6_thrown C) 0 rfl rfl rfl (Nat.le_of_ble_eq_true rfl) dL_law_1318 ⟨by show kk + 0 + 0 ≤ 1094; omega, by show jj + 0 + 0 ≤ 10825; omega⟩) ?_
  refine x_iload C 5 dL_law_1321 rfl ?_
  refine x_icmp_eq C (t := 1328) dL_law_1323 (by decide) (fun _ => ?_) (fun c1 => absurd hth c1)
  refine x_goto C (t := 1689) dL_law_1328 (by decide) ?_
  refine x_world (w' := (wE cI cZ ad S' (eo ad (ad 0) (ad 7) (oc ao cJ fo (wM cI cZ am M' []))))) (wl_ME (D := D)).1 ((wl_ME (D := D)).2 _) ?_
  refine x_locals (lv' := [(0, .ref b), (1, .ref (ad 32)), (2, .ref (am 0)), (3, .ref ao), (4, .int i)]) [0, 1, 2, 3, 4] rfl ?_
  exact K _ _ _ (by omega) (by omega)
set_option maxHeartbeats 8000000 in
set_option maxRecDepth 100000 in
theorem LC_refer_ok_1 {p : Program} {l : Launch} {e : Env} {s : State} {m : MethodId} {below : List Frame} {meth : Method} {c : Code} {D : va_G} {cI cZ cJ : ClassId} {ad am : Nat → Nat} {ao b L kk jj : Nat} {xs : Nat → Int32} {S M : St} {fo : Nat → Int64} {i : Int32} {Q : State → Prop} (C : XC p room_1 s m #[Value.ref b] meth c cL_law 7 (some .boolean) RL wsL_law D (t3 cI cZ cJ)) (G : LG s b L xs) (hfl : l.stackTraces = false) (hk : kk + 1 ≤ 1094) (hj : jj + 6 ≤ 10825) {a1 : Int32} {a2 : Int32} (g1 : vp_in (i + 1) L) (e1 : xs (i + 1).toNatClampNeg = a1) (g2 : vp_in (i + 2) L) (e2 : xs (i + 2).toNatClampNeg = a2) (hz : ¬ a2 = 0) {S' : St} {M' : St} (h : X5_refer S a1 1 = some (0, S')) (hM : X6_refer M a1 1 = some M') (hth : M' 0 25 = 0) (K : ∀ (fo' : Nat → Int64) (k' j' : Nat), k' ≤ kk + 1 → j' ≤ jj + 6 → XW p l e room_1 s m #[Value.ref b] below meth c D [] 7 Q (wE cI cZ ad S' (eo ad (ad 0) (ad 7) (oc ao cJ fo' (wM cI cZ am M' [])))) k' j' 1689 [(0, .ref b), (1, .ref (ad 32)), (2, .ref (am 0)), (3, .ref ao), (4, .int i)] []) : XW p l e room_1 s m #[Value.ref b] below meth c D [] 7 Q (wE cI cZ ad S (eo ad (ad 0) (ad 7) (oc ao cJ fo (wM cI cZ am M [])))) kk jj 1267 [(0, .ref b), (1, .ref (ad 32)), (2, .ref (am 0)), (3, .ref ao), (4, .int i)] [] := by
  refine x_aload_n C 1 dL_law_1267 rfl ?_
  refine x_aload_n C 0 dL_law_1268 rfl ?_
  refine x_iload C 4 dL_law_1269 rfl ?_
  refine x_iconst C (v := 1) dL_law_1271 (by decide) ?_
  refine x_iadd C dL_law_1272 ?_
  refine x_sld C G g1 e1 dL_law_1273 ?_
  refine x_aload_n C 0 dL_law_1274 rfl ?_
  refine x_iload C 4 dL_law_1275 rfl ?_
  refine x_iconst C (v := 2) dL_law_1277 (by decide) ?_
  refine x_iadd C dL_law_1278 ?_
  refine x_sld C G g2 e2 dL_law_1279 ?_
  refine x_if_eq C (t := 1287) dL_law_1280 (by decide) (fun c1 => absurd c1 hz) (fun _ => ?_)
  refine x_iconst C (v := 1) dL_law_1283 (by decide) ?_
  refine x_goto C (t := 1288) dL_law_1284 (by decide) ?_
  refine x_ci (mc := 0) (ms := 0) (x_runSW C G.2.2.1 G.2.2.2 (As := [.ref (ad 32), .int a1, .int 1]) (rest := []) (c_L_refer_ok hfl h) (cwl_refer C) rfl (Nat.le_of_ble_eq_true rfl) dL_law_1288 ⟨by show kk + 0 ≤ 1094; omega, by show jj + 0 ≤ 10825; omega⟩) ?_
  refine x_istore C (lv' := [(0, .ref b), (1, .ref (ad 32)), (2, .ref (am 0)), (3, .ref ao), (4, .int i), (5, .int 0)]) dL_law_1291 (by decide) rfl ?_
  refine x_aload_n C 2 dL_law_1293 rfl ?_
  refine x_aload_n C 0 dL_law_1294 rfl ?_
  refine x_iload C 4 dL_law_1295 rfl ?_
  refine x_iconst C (v := 1) dL_law_1297 (by decide) ?_
  refine x_iadd C dL_law_1298 ?_
  refine x_sld C G g1 e1 dL_law_1299 ?_
  refine x_aload_n C 0 dL_law_1300 rfl ?_
  refine x_iload C 4 dL_law_1301 rfl ?_
  refine x_iconst C (v := 2) dL_law_1303 (by decide) ?_
  refine x_iadd C dL_law_1304 ?_
  refine x_sld C G g2 e2 dL_law_1305 ?_
  refine x_if_eq C (t := 1313) dL_law_1306 (by decide) (fun c1 => absurd c1 hz) (fun _ => ?_)
  refine x_iconst C (v := 1) dL_law_1309 (by decide) ?_
  refine x_goto C (t := 1314) dL_law_1310 (by decide) ?_
  refine x_world (w' := (wM cI cZ am M (wE cI cZ ad S' (eo ad (ad 0) (ad 7) (oc ao cJ fo []))))) (wl_EM (D := D)).1 ((wl_EM (D := D)).2 _) ?_
  refine x_cv0 (x_runV C (As := [.int a1, .int 1]) (rest := []) (c_X6_refer hM) (cwl6_refer C) 0 rfl rfl rfl (Nat.le_of_ble_eq_true rfl) dL_law_1314 ⟨by show kk + 0 + 0 ≤ 1094; omega, by show jj + 0 + 0 ≤ 10825; omega⟩) ?_
  refine x_aload_n C 2 dL_law_1317 rfl ?_
  refine x_ci0 (x_runV C (As := []) (rest := []) (c_X6_thrown (S := M') (r := M' 0 25) rfl) (cwl6_thrown C) 0 rfl rfl rfl (Nat.le_of_ble_eq_true rfl) dL_law_1318 ⟨by show kk + 0 + 0 ≤ 1094; omega, by show jj + 0 + 0 ≤ 10825; omega⟩) ?_
  refine x_iload C 5 dL_law_1321 rfl ?_
  refine x_icmp_eq C (t := 1328) dL_law_1323 (by decide) (fun _ => ?_) (fun c1 => absurd hth c1)
  refine x_goto C (t := 1689) dL_law_1328 (by decide) ?_
  refine x_world (w' := (wE cI cZ ad S' (eo ad (ad 0) (ad 7) (oc ao cJ fo (wM cI cZ am M' []))))) (wl_ME (D := D)).1 ((wl_ME (D := D)).2 _) ?_
  refine x_locals (lv' := [(0, .ref b), (1, .ref (ad 32)), (2, .ref (am 0)), (3, .ref ao), (4, .int i)]) [0, 1, 2, 3, 4] rfl ?_
  exact K _ _ _ (by omega) (by omega)
set_option maxHeartbeats 8000000 in
set_option maxRecDepth 100000 in
theorem LC_refer_th0_0 {p : Program} {l : Launch} {e : Env} {s : State} {m : MethodId} {below : List Frame} {meth : Method} {c : Code} {D : va_G} {cI cZ cJ : ClassId} {ad am : Nat → Nat} {ao b L kk jj : Nat} {xs : Nat → Int32} {S M : St} {fo : Nat → Int64} {i : Int32} {Q : State → Prop} (C : XC p room_1 s m #[Value.ref b] meth c cL_law 7 (some .boolean) RL wsL_law D (t3 cI cZ cJ)) (G : LG s b L xs) (hfl : l.stackTraces = false) (hk : kk + 1 ≤ 1094) (hj : jj + 6 ≤ 10825) {a1 : Int32} {a2 : Int32} (g1 : vp_in (i + 1) L) (e1 : xs (i + 1).toNatClampNeg = a1) (g2 : vp_in (i + 2) L) (e2 : xs (i + 2).toNatClampNeg = a2) (hz : a2 = 0) {S' : St} {M' : St} (h : X5_refer S a1 0 = some (1, S')) (hM : X6_refer M a1 0 = some M') (hth : M' 0 25 = 1) (K : ∀ (fo' : Nat → Int64) (k' j' : Nat), k' ≤ kk + 1 → j' ≤ jj + 6 → XW p l e room_1 s m #[Value.ref b] below meth c D [] 7 Q (wE cI cZ ad S' (eo ad (ad 0) (ad 7) (oc ao cJ fo' (wM cI cZ am M' [])))) k' j' 1689 [(0, .ref b), (1, .ref (ad 32)), (2, .ref (am 0)), (3, .ref ao), (4, .int i)] []) : XW p l e room_1 s m #[Value.ref b] below meth c D [] 7 Q (wE cI cZ ad S (eo ad (ad 0) (ad 7) (oc ao cJ fo (wM cI cZ am M [])))) kk jj 1267 [(0, .ref b), (1, .ref (ad 32)), (2, .ref (am 0)), (3, .ref ao), (4, .int i)] [] := by
  refine x_aload_n C 1 dL_law_1267 rfl ?_
  refine x_aload_n C 0 dL_law_1268 rfl ?_
  refine x_iload C 4 dL_law_1269 rfl ?_
  refine x_iconst C (v := 1) dL_law_1271 (by decide) ?_
  refine x_iadd C dL_law_1272 ?_
  refine x_sld C G g1 e1 dL_law_1273 ?_
  refine x_aload_n C 0 dL_law_1274 rfl ?_
  refine x_iload C 4 dL_law_1275 rfl ?_
  refine x_iconst C (v := 2) dL_law_1277 (by decide) ?_
  refine x_iadd C dL_law_1278 ?_
  refine x_sld C G g2 e2 dL_law_1279 ?_
  refine x_if_eq C (t := 1287) dL_law_1280 (by decide) (fun _ => ?_) (fun c1 => absurd hz c1)
  refine x_iconst C (v := 0) dL_law_1287 (by decide) ?_
  refine x_ci (mc := 1) (ms := 6) (x_runSW C G.2.2.1 G.2.2.2 (As := [.ref (ad 32), .int a1, .int 0]) (rest := []) (c_L_refer_th0 hfl h) (cwl_refer_th C) rfl (Nat.le_of_ble_eq_true rfl) dL_law_1288 ⟨by show kk + 1 ≤ 1094; omega, by show jj + 6 ≤ 10825; omega⟩) ?_
  refine x_istore C (lv' := [(0, .ref b), (1, .ref (ad 32)), (2, .ref (am 0)), (3, .ref ao), (4, .int i), (5, .int 1)]) dL_law_1291 (by decide) rfl ?_
  refine x_aload_n C 2 dL_law_1293 rfl ?_
  refine x_aload_n C 0 dL_law_1294 rfl ?_
  refine x_iload C 4 dL_law_1295 rfl ?_
  refine x_iconst C (v := 1) dL_law_1297 (by decide) ?_
  refine x_iadd C dL_law_1298 ?_
  refine x_sld C G g1 e1 dL_law_1299 ?_
  refine x_aload_n C 0 dL_law_1300 rfl ?_
  refine x_iload C 4 dL_law_1301 rfl ?_
  refine x_iconst C (v := 2) dL_law_1303 (by decide) ?_
  refine x_iadd C dL_law_1304 ?_
  refine x_sld C G g2 e2 dL_law_1305 ?_
  refine x_if_eq C (t := 1313) dL_law_1306 (by decide) (fun _ => ?_) (fun c1 => absurd hz c1)
  refine x_iconst C (v := 0) dL_law_1313 (by decide) ?_
  refine x_world (w' := (wM cI cZ am M (wE cI cZ ad S' (eo ad (ad 0) (ad 7) (oc ao cJ fo []))))) (wl_EM (D := D)).1 ((wl_EM (D := D)).2 _) ?_
  refine x_cv0 (x_runV C (As := [.int a1, .int 0]) (rest := []) (c_X6_refer hM) (cwl6_refer C) 0 rfl rfl rfl (Nat.le_of_ble_eq_true rfl) dL_law_1314 ⟨by show kk + 1 + 0 ≤ 1094; omega, by show jj + 6 + 0 ≤ 10825; omega⟩) ?_
  refine x_aload_n C 2 dL_law_1317 rfl ?_
  refine x_ci0 (x_runV C (As := []) (rest := []) (c_X6_thrown (S := M') (r := M' 0 25) rfl) (cwl6_thrown C) 0 rfl rfl rfl (Nat.le_of_ble_eq_true rfl) dL_law_1318 ⟨by show kk + 1 + 0 ≤ 1094; omega, by show jj + 6 + 0 ≤ 10825; omega⟩) ?_
  refine x_iload C 5 dL_law_1321 rfl ?_
  refine x_icmp_eq C (t := 1328) dL_law_1323 (by decide) (fun _ => ?_) (fun c1 => absurd hth c1)
  refine x_goto C (t := 1689) dL_law_1328 (by decide) ?_
  refine x_world (w' := (wE cI cZ ad S' (eo ad (ad 0) (ad 7) (oc ao cJ fo (wM cI cZ am M' []))))) (wl_ME (D := D)).1 ((wl_ME (D := D)).2 _) ?_
  refine x_locals (lv' := [(0, .ref b), (1, .ref (ad 32)), (2, .ref (am 0)), (3, .ref ao), (4, .int i)]) [0, 1, 2, 3, 4] rfl ?_
  exact K _ _ _ (by omega) (by omega)
set_option maxHeartbeats 8000000 in
set_option maxRecDepth 100000 in
theorem LC_refer_th0_1 {p : Program} {l : Launch} {e : Env} {s : State} {m : MethodId} {below : List Frame} {meth : Method} {c : Code} {D : va_G} {cI cZ cJ : ClassId} {ad am : Nat → Nat} {ao b L kk jj : Nat} {xs : Nat → Int32} {S M : St} {fo : Nat → Int64} {i : Int32} {Q : State → Prop} (C : XC p room_1 s m #[Value.ref b] meth c cL_law 7 (some .boolean) RL wsL_law D (t3 cI cZ cJ)) (G : LG s b L xs) (hfl : l.stackTraces = false) (hk : kk + 1 ≤ 1094) (hj : jj + 6 ≤ 10825) {a1 : Int32} {a2 : Int32} (g1 : vp_in (i + 1) L) (e1 : xs (i + 1).toNatClampNeg = a1) (g2 : vp_in (i + 2) L) (e2 : xs (i + 2).toNatClampNeg = a2) (hz : ¬ a2 = 0) {S' : St} {M' : St} (h : X5_refer S a1 1 = some (1, S')) (hM : X6_refer M a1 1 = some M') (hth : M' 0 25 = 1) (K : ∀ (fo' : Nat → Int64) (k' j' : Nat), k' ≤ kk + 1 → j' ≤ jj + 6 → XW p l e room_1 s m #[Value.ref b] below meth c D [] 7 Q (wE cI cZ ad S' (eo ad (ad 0) (ad 7) (oc ao cJ fo' (wM cI cZ am M' [])))) k' j' 1689 [(0, .ref b), (1, .ref (ad 32)), (2, .ref (am 0)), (3, .ref ao), (4, .int i)] []) : XW p l e room_1 s m #[Value.ref b] below meth c D [] 7 Q (wE cI cZ ad S (eo ad (ad 0) (ad 7) (oc ao cJ fo (wM cI cZ am M [])))) kk jj 1267 [(0, .ref b), (1, .ref (ad 32)), (2, .ref (am 0)), (3, .ref ao), (4, .int i)] [] := by
  refine x_aload_n C 1 dL_law_1267 rfl ?_
  refine x_aload_n C 0 dL_law_1268 rfl ?_
  refine x_iload C 4 dL_law_1269 rfl ?_
  refine x_iconst C (v := 1) dL_law_1271 (by decide) ?_
  refine x_iadd C dL_law_1272 ?_
  refine x_sld C G g1 e1 dL_law_1273 ?_
  refine x_aload_n C 0 dL_law_1274 rfl ?_
  refine x_iload C 4 dL_law_1275 rfl ?_
  refine x_iconst C (v := 2) dL_law_1277 (by decide) ?_
  refine x_iadd C dL_law_1278 ?_
  refine x_sld C G g2 e2 dL_law_1279 ?_
  refine x_if_eq C (t := 1287) dL_law_1280 (by decide) (fun c1 => absurd c1 hz) (fun _ => ?_)
  refine x_iconst C (v := 1) dL_law_1283 (by decide) ?_
  refine x_goto C (t := 1288) dL_law_1284 (by decide) ?_
  refine x_ci (mc := 1) (ms := 6) (x_runSW C G.2.2.1 G.2.2.2 (As := [.ref (ad 32), .int a1, .int 1]) (rest := []) (c_L_refer_th0 hfl h) (cwl_refer_th C) rfl (Nat.le_of_ble_eq_true rfl) dL_law_1288 ⟨by show kk + 1 ≤ 1094; omega, by show jj + 6 ≤ 10825; omega⟩) ?_
  refine x_istore C (lv' := [(0, .ref b), (1, .ref (ad 32)), (2, .ref (am 0)), (3, .ref ao), (4, .int i), (5, .int 1)]) dL_law_1291 (by decide) rfl ?_
  refine x_aload_n C 2 dL_law_1293 rfl ?_
  refine x_aload_n C 0 dL_law_1294 rfl ?_
  refine x_iload C 4 dL_law_1295 rfl ?_
  refine x_iconst C (v := 1) dL_law_1297 (by decide) ?_
  refine x_iadd C dL_law_1298 ?_
  refine x_sld C G g1 e1 dL_law_1299 ?_
  refine x_aload_n C 0 dL_law_1300 rfl ?_
  refine x_iload C 4 dL_law_1301 rfl ?_
  refine x_iconst C (v := 2) dL_law_1303 (by decide) ?_
  refine x_iadd C dL_law_1304 ?_
  refine x_sld C G g2 e2 dL_law_1305 ?_
  refine x_if_eq C (t := 1313) dL_law_1306 (by decide) (fun c1 => absurd c1 hz) (fun _ => ?_)
  refine x_iconst C (v := 1) dL_law_1309 (by decide) ?_
  refine x_goto C (t := 1314) dL_law_1310 (by decide) ?_
  refine x_world (w' := (wM cI cZ am M (wE cI cZ ad S' (eo ad (ad 0) (ad 7) (oc ao cJ fo []))))) (wl_EM (D := D)).1 ((wl_EM (D := D)).2 _) ?_
  refine x_cv0 (x_runV C (As := [.int a1, .int 1]) (rest := []) (c_X6_refer hM) (cwl6_refer C) 0 rfl rfl rfl (Nat.le_of_ble_eq_true rfl) dL_law_1314 ⟨by show kk + 1 + 0 ≤ 1094; omega, by show jj + 6 + 0 ≤ 10825; omega⟩) ?_
  refine x_aload_n C 2 dL_law_1317 rfl ?_
  refine x_ci0 (x_runV C (As := []) (rest := []) (c_X6_thrown (S := M') (r := M' 0 25) rfl) (cwl6_thrown C) 0 rfl rfl rfl (Nat.le_of_ble_eq_true rfl) dL_law_1318 ⟨by show kk + 1 + 0 ≤ 1094; omega, by show jj + 6 + 0 ≤ 10825; omega⟩) ?_
  refine x_iload C 5 dL_law_1321 rfl ?_
  refine x_icmp_eq C (t := 1328) dL_law_1323 (by decide) (fun _ => ?_) (fun c1 => absurd hth c1)
  refine x_goto C (t := 1689) dL_law_1328 (by decide) ?_
  refine x_world (w' := (wE cI cZ ad S' (eo ad (ad 0) (ad 7) (oc ao cJ fo (wM cI cZ am M' []))))) (wl_ME (D := D)).1 ((wl_ME (D := D)).2 _) ?_
  refine x_locals (lv' := [(0, .ref b), (1, .ref (ad 32)), (2, .ref (am 0)), (3, .ref ao), (4, .int i)]) [0, 1, 2, 3, 4] rfl ?_
  exact K _ _ _ (by omega) (by omega)
set_option maxHeartbeats 8000000 in
set_option maxRecDepth 100000 in
theorem LC_test_ok {p : Program} {l : Launch} {e : Env} {s : State} {m : MethodId} {below : List Frame} {meth : Method} {c : Code} {D : va_G} {cI cZ cJ : ClassId} {ad am : Nat → Nat} {ao b L kk jj : Nat} {xs : Nat → Int32} {S M : St} {fo : Nat → Int64} {i : Int32} {Q : State → Prop} (C : XC p room_1 s m #[Value.ref b] meth c cL_law 7 (some .boolean) RL wsL_law D (t3 cI cZ cJ)) (G : LG s b L xs) (hfl : l.stackTraces = false) (hk : kk + 1 ≤ 1094) (hj : jj + 6 ≤ 10825) {a1 : Int32} {a2 : Int32} {a3 : Int32} (g1 : vp_in (i + 1) L) (e1 : xs (i + 1).toNatClampNeg = a1) (g2 : vp_in (i + 2) L) (e2 : xs (i + 2).toNatClampNeg = a2) (g3 : vp_in (i + 3) L) (e3 : xs (i + 3).toNatClampNeg = a3) {v : Int32} {S' : St} {M' : St} (h : X5_test S a1 a2 a3 = some (0, v, S')) (hM : X6_test M a1 a2 a3 = some (v, M')) (hth : M' 0 25 = 0) (K : ∀ (fo' : Nat → Int64) (k' j' : Nat), k' ≤ kk + 1 → j' ≤ jj + 6 → XW p l e room_1 s m #[Value.ref b] below meth c D [] 7 Q (wE cI cZ ad S' (eo ad (ad 0) (ad 7) (oc ao cJ fo' (wM cI cZ am M' [])))) k' j' 1689 [(0, .ref b), (1, .ref (ad 32)), (2, .ref (am 0)), (3, .ref ao), (4, .int i)] []) : XW p l e room_1 s m #[Value.ref b] below meth c D [] 7 Q (wE cI cZ ad S (eo ad (ad 0) (ad 7) (oc ao cJ fo (wM cI cZ am M [])))) kk jj 1331 [(0, .ref b), (1, .ref (ad 32)), (2, .ref (am 0)), (3, .ref ao), (4, .int i)] [] := by
  refine x_aload_n C 1 dL_law_1331 rfl ?_
  refine x_aload_n C 0 dL_law_1332 rfl ?_
  refine x_iload C 4 dL_law_1333 rfl ?_
  refine x_iconst C (v := 1) dL_law_1335 (by decide) ?_
  refine x_iadd C dL_law_1336 ?_
  refine x_sld C G g1 e1 dL_law_1337 ?_
  refine x_aload_n C 0 dL_law_1338 rfl ?_
  refine x_iload C 4 dL_law_1339 rfl ?_
  refine x_iconst C (v := 2) dL_law_1341 (by decide) ?_
  refine x_iadd C dL_law_1342 ?_
  refine x_sld C G g2 e2 dL_law_1343 ?_
  refine x_aload_n C 0 dL_law_1344 rfl ?_
  refine x_iload C 4 dL_law_1345 rfl ?_
  refine x_iconst C (v := 3) dL_law_1347 (by decide) ?_
  refine x_iadd C dL_law_1348 ?_
  refine x_sld C G g3 e3 dL_law_1349 ?_
  refine x_aload_n C 3 dL_law_1350 rfl ?_
  refine x_ci (mc := 0) (ms := 0) (x_runSW C G.2.2.1 G.2.2.2 (As := [.ref (ad 32), .int a1, .int a2, .int a3, .ref ao]) (rest := []) (c_L_test_ok hfl h) (cwl_test C) rfl (Nat.le_of_ble_eq_true rfl) dL_law_1351 ⟨by show kk + 0 ≤ 1094; omega, by show jj + 0 ≤ 10825; omega⟩) ?_
  refine x_istore C (lv' := [(0, .ref b), (1, .ref (ad 32)), (2, .ref (am 0)), (3, .ref ao), (4, .int i), (5, .int 0)]) dL_law_1354 (by decide) rfl ?_
  refine x_aload_n C 2 dL_law_1356 rfl ?_
  refine x_aload_n C 0 dL_law_1357 rfl ?_
  refine x_iload C 4 dL_law_1358 rfl ?_
  refine x_iconst C (v := 1) dL_law_1360 (by decide) ?_
  refine x_iadd C dL_law_1361 ?_
  refine x_sld C G g1 e1 dL_law_1362 ?_
  refine x_aload_n C 0 dL_law_1363 rfl ?_
  refine x_iload C 4 dL_law_1364 rfl ?_
  refine x_iconst C (v := 2) dL_law_1366 (by decide) ?_
  refine x_iadd C dL_law_1367 ?_
  refine x_sld C G g2 e2 dL_law_1368 ?_
  refine x_aload_n C 0 dL_law_1369 rfl ?_
  refine x_iload C 4 dL_law_1370 rfl ?_
  refine x_iconst C (v := 3) dL_law_1372 (by decide) ?_
  refine x_iadd C dL_law_1373 ?_
  refine x_sld C G g3 e3 dL_law_1374 ?_
  refine x_world (w' := (wM cI cZ am M (wE cI cZ ad S' (eo ad (ad 0) (ad 7) (oc ao cJ (vp_updL fo 0 v.toInt64) []))))) (wl_EM (D := D)).1 ((wl_EM (D := D)).2 _) ?_
  refine x_ci0 (x_runV C (As := [.int a1, .int a2, .int a3]) (rest := []) (c_X6_test hM) (cwl6_test C) 0 rfl rfl rfl (Nat.le_of_ble_eq_true rfl) dL_law_1375 ⟨by show kk + 0 + 0 ≤ 1094; omega, by show jj + 0 + 0 ≤ 10825; omega⟩) ?_
  refine x_istore C (lv' := [(0, .ref b), (1, .ref (ad 32)), (2, .ref (am 0)), (3, .ref ao), (4, .int i), (5, .int 0), (6, .int v)]) dL_law_1378 (by decide) rfl ?_
  refine x_aload_n C 2 dL_law_1380 rfl ?_
  refine x_ci0 (x_runV C (As := []) (rest := []) (c_X6_thrown (S := M') (r := M' 0 25) rfl) (cwl6_thrown C) 0 rfl rfl rfl (Nat.le_of_ble_eq_true rfl) dL_law_1381 ⟨by show kk + 0 + 0 ≤ 1094; omega, by show jj + 0 + 0 ≤ 10825; omega⟩) ?_
  refine x_iload C 5 dL_law_1384 rfl ?_
  refine x_icmp_eq C (t := 1391) dL_law_1386 (by decide) (fun _ => ?_) (fun c1 => absurd hth c1)
  refine x_iload C 5 dL_law_1391 rfl ?_
  refine x_if_ne C (t := 1408) dL_law_1393 (by decide) (fun c1 => absurd rfl c1) (fun _ => ?_)
  refine x_aload_n C 3 dL_law_1396 rfl ?_
  refine x_iconst C (v := 0) dL_law_1397 (by decide) ?_
  refine x_lald C 57 rfl (show ¬ ((0:Int32) < 0 ∨ 1 ≤ (0:Int32).toNatClampNeg) by decide) dL_law_1398 ?_
  refine x_iload C 6 dL_law_1399 rfl ?_
  refine x_i2l C dL_law_1401 ?_
  refine x_lcmp C dL_law_1402 ?_
  refine x_if_eq C (t := 1408) dL_law_1403 (by decide) (fun _ => ?_) (fun c1 => absurd (lg_self _ _) c1)
  refine x_goto C (t := 1689) dL_law_1408 (by decide) ?_
  refine x_world (w' := (wE cI cZ ad S' (eo ad (ad 0) (ad 7) (oc ao cJ (vp_updL fo 0 v.toInt64) (wM cI cZ am M' []))))) (wl_ME (D := D)).1 ((wl_ME (D := D)).2 _) ?_
  refine x_locals (lv' := [(0, .ref b), (1, .ref (ad 32)), (2, .ref (am 0)), (3, .ref ao), (4, .int i)]) [0, 1, 2, 3, 4] rfl ?_
  exact K _ _ _ (by omega) (by omega)
set_option maxHeartbeats 8000000 in
set_option maxRecDepth 100000 in
theorem LC_test_th1 {p : Program} {l : Launch} {e : Env} {s : State} {m : MethodId} {below : List Frame} {meth : Method} {c : Code} {D : va_G} {cI cZ cJ : ClassId} {ad am : Nat → Nat} {ao b L kk jj : Nat} {xs : Nat → Int32} {S M : St} {fo : Nat → Int64} {i : Int32} {Q : State → Prop} (C : XC p room_1 s m #[Value.ref b] meth c cL_law 7 (some .boolean) RL wsL_law D (t3 cI cZ cJ)) (G : LG s b L xs) (hfl : l.stackTraces = false) (hk : kk + 1 ≤ 1094) (hj : jj + 6 ≤ 10825) {a1 : Int32} {a2 : Int32} {a3 : Int32} (g1 : vp_in (i + 1) L) (e1 : xs (i + 1).toNatClampNeg = a1) (g2 : vp_in (i + 2) L) (e2 : xs (i + 2).toNatClampNeg = a2) (g3 : vp_in (i + 3) L) (e3 : xs (i + 3).toNatClampNeg = a3) {v : Int32} {vb : Int32} {S' : St} {M' : St} (h : X5_test S a1 a2 a3 = some (2, v, S')) (hM : X6_test M a1 a2 a3 = some (vb, M')) (hth : M' 0 25 = 1) (K : ∀ (fo' : Nat → Int64) (k' j' : Nat), k' ≤ kk + 1 → j' ≤ jj + 6 → XW p l e room_1 s m #[Value.ref b] below meth c D [] 7 Q (wE cI cZ ad S' (eo ad (ad 0) (ad 7) (oc ao cJ fo' (wM cI cZ am M' [])))) k' j' 1689 [(0, .ref b), (1, .ref (ad 32)), (2, .ref (am 0)), (3, .ref ao), (4, .int i)] []) : XW p l e room_1 s m #[Value.ref b] below meth c D [] 7 Q (wE cI cZ ad S (eo ad (ad 0) (ad 7) (oc ao cJ fo (wM cI cZ am M [])))) kk jj 1331 [(0, .ref b), (1, .ref (ad 32)), (2, .ref (am 0)), (3, .ref ao), (4, .int i)] [] := by
  refine x_aload_n C 1 dL_law_1331 rfl ?_
  refine x_aload_n C 0 dL_law_1332 rfl ?_
  refine x_iload C 4 dL_law_1333 rfl ?_
  refine x_iconst C (v := 1) dL_law_1335 (by decide) ?_
  refine x_iadd C dL_law_1336 ?_
  refine x_sld C G g1 e1 dL_law_1337 ?_
  refine x_aload_n C 0 dL_law_1338 rfl ?_
  refine x_iload C 4 dL_law_1339 rfl ?_
  refine x_iconst C (v := 2) dL_law_1341 (by decide) ?_
  refine x_iadd C dL_law_1342 ?_
  refine x_sld C G g2 e2 dL_law_1343 ?_
  refine x_aload_n C 0 dL_law_1344 rfl ?_
  refine x_iload C 4 dL_law_1345 rfl ?_
  refine x_iconst C (v := 3) dL_law_1347 (by decide) ?_
  refine x_iadd C dL_law_1348 ?_
  refine x_sld C G g3 e3 dL_law_1349 ?_
  refine x_aload_n C 3 dL_law_1350 rfl ?_
  refine x_ci (mc := 1) (ms := 6) (x_runSW C G.2.2.1 G.2.2.2 (As := [.ref (ad 32), .int a1, .int a2, .int a3, .ref ao]) (rest := []) (c_L_test_th1 hfl h) (cwl_test_th C) rfl (Nat.le_of_ble_eq_true rfl) dL_law_1351 ⟨by show kk + 1 ≤ 1094; omega, by show jj + 6 ≤ 10825; omega⟩) ?_
  refine x_istore C (lv' := [(0, .ref b), (1, .ref (ad 32)), (2, .ref (am 0)), (3, .ref ao), (4, .int i), (5, .int 1)]) dL_law_1354 (by decide) rfl ?_
  refine x_aload_n C 2 dL_law_1356 rfl ?_
  refine x_aload_n C 0 dL_law_1357 rfl ?_
  refine x_iload C 4 dL_law_1358 rfl ?_
  refine x_iconst C (v := 1) dL_law_1360 (by decide) ?_
  refine x_iadd C dL_law_1361 ?_
  refine x_sld C G g1 e1 dL_law_1362 ?_
  refine x_aload_n C 0 dL_law_1363 rfl ?_
  refine x_iload C 4 dL_law_1364 rfl ?_
  refine x_iconst C (v := 2) dL_law_1366 (by decide) ?_
  refine x_iadd C dL_law_1367 ?_
  refine x_sld C G g2 e2 dL_law_1368 ?_
  refine x_aload_n C 0 dL_law_1369 rfl ?_
  refine x_iload C 4 dL_law_1370 rfl ?_
  refine x_iconst C (v := 3) dL_law_1372 (by decide) ?_
  refine x_iadd C dL_law_1373 ?_
  refine x_sld C G g3 e3 dL_law_1374 ?_
  refine x_world (w' := (wM cI cZ am M (wE cI cZ ad S' (eo ad (ad 0) (ad 7) (oc ao cJ fo []))))) (wl_EM (D := D)).1 ((wl_EM (D := D)).2 _) ?_
  refine x_ci0 (x_runV C (As := [.int a1, .int a2, .int a3]) (rest := []) (c_X6_test hM) (cwl6_test C) 0 rfl rfl rfl (Nat.le_of_ble_eq_true rfl) dL_law_1375 ⟨by show kk + 1 + 0 ≤ 1094; omega, by show jj + 6 + 0 ≤ 10825; omega⟩) ?_
  refine x_istore C (lv' := [(0, .ref b), (1, .ref (ad 32)), (2, .ref (am 0)), (3, .ref ao), (4, .int i), (5, .int 1), (6, .int vb)]) dL_law_1378 (by decide) rfl ?_
  refine x_aload_n C 2 dL_law_1380 rfl ?_
  refine x_ci0 (x_runV C (As := []) (rest := []) (c_X6_thrown (S := M') (r := M' 0 25) rfl) (cwl6_thrown C) 0 rfl rfl rfl (Nat.le_of_ble_eq_true rfl) dL_law_1381 ⟨by show kk + 1 + 0 ≤ 1094; omega, by show jj + 6 + 0 ≤ 10825; omega⟩) ?_
  refine x_iload C 5 dL_law_1384 rfl ?_
  refine x_icmp_eq C (t := 1391) dL_law_1386 (by decide) (fun _ => ?_) (fun c1 => absurd hth c1)
  refine x_iload C 5 dL_law_1391 rfl ?_
  refine x_if_ne C (t := 1408) dL_law_1393 (by decide) (fun _ => ?_) (fun c1 => absurd c1 (by decide))
  refine x_goto C (t := 1689) dL_law_1408 (by decide) ?_
  refine x_world (w' := (wE cI cZ ad S' (eo ad (ad 0) (ad 7) (oc ao cJ fo (wM cI cZ am M' []))))) (wl_ME (D := D)).1 ((wl_ME (D := D)).2 _) ?_
  refine x_locals (lv' := [(0, .ref b), (1, .ref (ad 32)), (2, .ref (am 0)), (3, .ref ao), (4, .int i)]) [0, 1, 2, 3, 4] rfl ?_
  exact K _ _ _ (by omega) (by omega)
set_option maxHeartbeats 8000000 in
set_option maxRecDepth 100000 in
theorem LC_test_th2 {p : Program} {l : Launch} {e : Env} {s : State} {m : MethodId} {below : List Frame} {meth : Method} {c : Code} {D : va_G} {cI cZ cJ : ClassId} {ad am : Nat → Nat} {ao b L kk jj : Nat} {xs : Nat → Int32} {S M : St} {fo : Nat → Int64} {i : Int32} {Q : State → Prop} (C : XC p room_1 s m #[Value.ref b] meth c cL_law 7 (some .boolean) RL wsL_law D (t3 cI cZ cJ)) (G : LG s b L xs) (hfl : l.stackTraces = false) (hk : kk + 1 ≤ 1094) (hj : jj + 6 ≤ 10825) {a1 : Int32} {a2 : Int32} {a3 : Int32} (g1 : vp_in (i + 1) L) (e1 : xs (i + 1).toNatClampNeg = a1) (g2 : vp_in (i + 2) L) (e2 : xs (i + 2).toNatClampNeg = a2) (g3 : vp_in (i + 3) L) (e3 : xs (i + 3).toNatClampNeg = a3) {v : Int32} {vb : Int32} {S' : St} {M' : St} (h : X5_test S a1 a2 a3 = some (3, v, S')) (hM : X6_test M a1 a2 a3 = some (vb, M')) (hth : M' 0 25 = 2) (K : ∀ (fo' : Nat → Int64) (k' j' : Nat), k' ≤ kk + 1 → j' ≤ jj + 6 → XW p l e room_1 s m #[Value.ref b] below meth c D [] 7 Q (wE cI cZ ad S' (eo ad (ad 0) (ad 7) (oc ao cJ fo' (wM cI cZ am M' [])))) k' j' 1689 [(0, .ref b), (1, .ref (ad 32)), (2, .ref (am 0)), (3, .ref ao), (4, .int i)] []) : XW p l e room_1 s m #[Value.ref b] below meth c D [] 7 Q (wE cI cZ ad S (eo ad (ad 0) (ad 7) (oc ao cJ fo (wM cI cZ am M [])))) kk jj 1331 [(0, .ref b), (1, .ref (ad 32)), (2, .ref (am 0)), (3, .ref ao), (4, .int i)] [] := by
  refine x_aload_n C 1 dL_law_1331 rfl ?_
  refine x_aload_n C 0 dL_law_1332 rfl ?_
  refine x_iload C 4 dL_law_1333 rfl ?_
  refine x_iconst C (v := 1) dL_law_1335 (by decide) ?_
  refine x_iadd C dL_law_1336 ?_
  refine x_sld C G g1 e1 dL_law_1337 ?_
  refine x_aload_n C 0 dL_law_1338 rfl ?_
  refine x_iload C 4 dL_law_1339 rfl ?_
  refine x_iconst C (v := 2) dL_law_1341 (by decide) ?_
  refine x_iadd C dL_law_1342 ?_
  refine x_sld C G g2 e2 dL_law_1343 ?_
  refine x_aload_n C 0 dL_law_1344 rfl ?_
  refine x_iload C 4 dL_law_1345 rfl ?_
  refine x_iconst C (v := 3) dL_law_1347 (by decide) ?_
  refine x_iadd C dL_law_1348 ?_
  refine x_sld C G g3 e3 dL_law_1349 ?_
  refine x_aload_n C 3 dL_law_1350 rfl ?_
  refine x_ci (mc := 1) (ms := 6) (x_runSW C G.2.2.1 G.2.2.2 (As := [.ref (ad 32), .int a1, .int a2, .int a3, .ref ao]) (rest := []) (c_L_test_th2 hfl h) (cwl_test_th C) rfl (Nat.le_of_ble_eq_true rfl) dL_law_1351 ⟨by show kk + 1 ≤ 1094; omega, by show jj + 6 ≤ 10825; omega⟩) ?_
  refine x_istore C (lv' := [(0, .ref b), (1, .ref (ad 32)), (2, .ref (am 0)), (3, .ref ao), (4, .int i), (5, .int 2)]) dL_law_1354 (by decide) rfl ?_
  refine x_aload_n C 2 dL_law_1356 rfl ?_
  refine x_aload_n C 0 dL_law_1357 rfl ?_
  refine x_iload C 4 dL_law_1358 rfl ?_
  refine x_iconst C (v := 1) dL_law_1360 (by decide) ?_
  refine x_iadd C dL_law_1361 ?_
  refine x_sld C G g1 e1 dL_law_1362 ?_
  refine x_aload_n C 0 dL_law_1363 rfl ?_
  refine x_iload C 4 dL_law_1364 rfl ?_
  refine x_iconst C (v := 2) dL_law_1366 (by decide) ?_
  refine x_iadd C dL_law_1367 ?_
  refine x_sld C G g2 e2 dL_law_1368 ?_
  refine x_aload_n C 0 dL_law_1369 rfl ?_
  refine x_iload C 4 dL_law_1370 rfl ?_
  refine x_iconst C (v := 3) dL_law_1372 (by decide) ?_
  refine x_iadd C dL_law_1373 ?_
  refine x_sld C G g3 e3 dL_law_1374 ?_
  refine x_world (w' := (wM cI cZ am M (wE cI cZ ad S' (eo ad (ad 0) (ad 7) (oc ao cJ fo []))))) (wl_EM (D := D)).1 ((wl_EM (D := D)).2 _) ?_
  refine x_ci0 (x_runV C (As := [.int a1, .int a2, .int a3]) (rest := []) (c_X6_test hM) (cwl6_test C) 0 rfl rfl rfl (Nat.le_of_ble_eq_true rfl) dL_law_1375 ⟨by show kk + 1 + 0 ≤ 1094; omega, by show jj + 6 + 0 ≤ 10825; omega⟩) ?_
  refine x_istore C (lv' := [(0, .ref b), (1, .ref (ad 32)), (2, .ref (am 0)), (3, .ref ao), (4, .int i), (5, .int 2), (6, .int vb)]) dL_law_1378 (by decide) rfl ?_
  refine x_aload_n C 2 dL_law_1380 rfl ?_
  refine x_ci0 (x_runV C (As := []) (rest := []) (c_X6_thrown (S := M') (r := M' 0 25) rfl) (cwl6_thrown C) 0 rfl rfl rfl (Nat.le_of_ble_eq_true rfl) dL_law_1381 ⟨by show kk + 1 + 0 ≤ 1094; omega, by show jj + 6 + 0 ≤ 10825; omega⟩) ?_
  refine x_iload C 5 dL_law_1384 rfl ?_
  refine x_icmp_eq C (t := 1391) dL_law_1386 (by decide) (fun _ => ?_) (fun c1 => absurd hth c1)
  refine x_iload C 5 dL_law_1391 rfl ?_
  refine x_if_ne C (t := 1408) dL_law_1393 (by decide) (fun _ => ?_) (fun c1 => absurd c1 (by decide))
  refine x_goto C (t := 1689) dL_law_1408 (by decide) ?_
  refine x_world (w' := (wE cI cZ ad S' (eo ad (ad 0) (ad 7) (oc ao cJ fo (wM cI cZ am M' []))))) (wl_ME (D := D)).1 ((wl_ME (D := D)).2 _) ?_
  refine x_locals (lv' := [(0, .ref b), (1, .ref (ad 32)), (2, .ref (am 0)), (3, .ref ao), (4, .int i)]) [0, 1, 2, 3, 4] rfl ?_
  exact K _ _ _ (by omega) (by omega)
set_option maxHeartbeats 8000000 in
set_option maxRecDepth 100000 in
theorem LC_join_ok {p : Program} {l : Launch} {e : Env} {s : State} {m : MethodId} {below : List Frame} {meth : Method} {c : Code} {D : va_G} {cI cZ cJ : ClassId} {ad am : Nat → Nat} {ao b L kk jj : Nat} {xs : Nat → Int32} {S M : St} {fo : Nat → Int64} {i : Int32} {Q : State → Prop} (C : XC p room_1 s m #[Value.ref b] meth c cL_law 7 (some .boolean) RL wsL_law D (t3 cI cZ cJ)) (G : LG s b L xs) (hfl : l.stackTraces = false) (hk : kk + 1 ≤ 1094) (hj : jj + 6 ≤ 10825) {a1 : Int32} {a2 : Int32} {a3 : Int32} (g1 : vp_in (i + 1) L) (e1 : xs (i + 1).toNatClampNeg = a1) (g2 : vp_in (i + 2) L) (e2 : xs (i + 2).toNatClampNeg = a2) (g3 : vp_in (i + 3) L) (e3 : xs (i + 3).toNatClampNeg = a3) {v : Int32} {S' : St} {M' : St} (h : X5_join S a1 a2 a3 = some (0, v, S')) (hM : X6_join M a1 a2 a3 = some (v, M')) (hth : M' 0 25 = 0) (K : ∀ (fo' : Nat → Int64) (k' j' : Nat), k' ≤ kk + 1 → j' ≤ jj + 6 → XW p l e room_1 s m #[Value.ref b] below meth c D [] 7 Q (wE cI cZ ad S' (eo ad (ad 0) (ad 7) (oc ao cJ fo' (wM cI cZ am M' [])))) k' j' 1689 [(0, .ref b), (1, .ref (ad 32)), (2, .ref (am 0)), (3, .ref ao), (4, .int i)] []) : XW p l e room_1 s m #[Value.ref b] below meth c D [] 7 Q (wE cI cZ ad S (eo ad (ad 0) (ad 7) (oc ao cJ fo (wM cI cZ am M [])))) kk jj 1411 [(0, .ref b), (1, .ref (ad 32)), (2, .ref (am 0)), (3, .ref ao), (4, .int i)] [] := by
  refine x_aload_n C 1 dL_law_1411 rfl ?_
  refine x_aload_n C 0 dL_law_1412 rfl ?_
  refine x_iload C 4 dL_law_1413 rfl ?_
  refine x_iconst C (v := 1) dL_law_1415 (by decide) ?_
  refine x_iadd C dL_law_1416 ?_
  refine x_sld C G g1 e1 dL_law_1417 ?_
  refine x_aload_n C 0 dL_law_1418 rfl ?_
  refine x_iload C 4 dL_law_1419 rfl ?_
  refine x_iconst C (v := 2) dL_law_1421 (by decide) ?_
  refine x_iadd C dL_law_1422 ?_
  refine x_sld C G g2 e2 dL_law_1423 ?_
  refine x_aload_n C 0 dL_law_1424 rfl ?_
  refine x_iload C 4 dL_law_1425 rfl ?_
  refine x_iconst C (v := 3) dL_law_1427 (by decide) ?_
  refine x_iadd C dL_law_1428 ?_
  refine x_sld C G g3 e3 dL_law_1429 ?_
  refine x_aload_n C 3 dL_law_1430 rfl ?_
  refine x_ci (mc := 0) (ms := 0) (x_runSW C G.2.2.1 G.2.2.2 (As := [.ref (ad 32), .int a1, .int a2, .int a3, .ref ao]) (rest := []) (c_L_join_ok hfl h) (cwl_join C) rfl (Nat.le_of_ble_eq_true rfl) dL_law_1431 ⟨by show kk + 0 ≤ 1094; omega, by show jj + 0 ≤ 10825; omega⟩) ?_
  refine x_istore C (lv' := [(0, .ref b), (1, .ref (ad 32)), (2, .ref (am 0)), (3, .ref ao), (4, .int i), (5, .int 0)]) dL_law_1434 (by decide) rfl ?_
  refine x_aload_n C 2 dL_law_1436 rfl ?_
  refine x_aload_n C 0 dL_law_1437 rfl ?_
  refine x_iload C 4 dL_law_1438 rfl ?_
  refine x_iconst C (v := 1) dL_law_1440 (by decide) ?_
  refine x_iadd C dL_law_1441 ?_
  refine x_sld C G g1 e1 dL_law_1442 ?_
  refine x_aload_n C 0 dL_law_1443 rfl ?_
  refine x_iload C 4 dL_law_1444 rfl ?_
  refine x_iconst C (v := 2) dL_law_1446 (by decide) ?_
  refine x_iadd C dL_law_1447 ?_
  refine x_sld C G g2 e2 dL_law_1448 ?_
  refine x_aload_n C 0 dL_law_1449 rfl ?_
  refine x_iload C 4 dL_law_1450 rfl ?_
  refine x_iconst C (v := 3) dL_law_1452 (by decide) ?_
  refine x_iadd C dL_law_1453 ?_
  refine x_sld C G g3 e3 dL_law_1454 ?_
  refine x_world (w' := (wM cI cZ am M (wE cI cZ ad S' (eo ad (ad 0) (ad 7) (oc ao cJ (vp_updL fo 0 v.toInt64) []))))) (wl_EM (D := D)).1 ((wl_EM (D := D)).2 _) ?_
  refine x_ci0 (x_runV C (As := [.int a1, .int a2, .int a3]) (rest := []) (c_X6_join hM) (cwl6_join C) 0 rfl rfl rfl (Nat.le_of_ble_eq_true rfl) dL_law_1455 ⟨by show kk + 0 + 0 ≤ 1094; omega, by show jj + 0 + 0 ≤ 10825; omega⟩) ?_
  refine x_istore C (lv' := [(0, .ref b), (1, .ref (ad 32)), (2, .ref (am 0)), (3, .ref ao), (4, .int i), (5, .int 0), (6, .int v)]) dL_law_1458 (by decide) rfl ?_
  refine x_aload_n C 2 dL_law_1460 rfl ?_
  refine x_ci0 (x_runV C (As := []) (rest := []) (c_X6_thrown (S := M') (r := M' 0 25) rfl) (cwl6_thrown C) 0 rfl rfl rfl (Nat.le_of_ble_eq_true rfl) dL_law_1461 ⟨by show kk + 0 + 0 ≤ 1094; omega, by show jj + 0 + 0 ≤ 10825; omega⟩) ?_
  refine x_iload C 5 dL_law_1464 rfl ?_
  refine x_icmp_eq C (t := 1471) dL_law_1466 (by decide) (fun _ => ?_) (fun c1 => absurd hth c1)
  refine x_iload C 5 dL_law_1471 rfl ?_
  refine x_if_ne C (t := 1488) dL_law_1473 (by decide) (fun c1 => absurd rfl c1) (fun _ => ?_)
  refine x_aload_n C 3 dL_law_1476 rfl ?_
  refine x_iconst C (v := 0) dL_law_1477 (by decide) ?_
  refine x_lald C 57 rfl (show ¬ ((0:Int32) < 0 ∨ 1 ≤ (0:Int32).toNatClampNeg) by decide) dL_law_1478 ?_
  refine x_iload C 6 dL_law_1479 rfl ?_
  refine x_i2l C dL_law_1481 ?_
  refine x_lcmp C dL_law_1482 ?_
  refine x_if_eq C (t := 1488) dL_law_1483 (by decide) (fun _ => ?_) (fun c1 => absurd (lg_self _ _) c1)
  refine x_goto C (t := 1689) dL_law_1488 (by decide) ?_
  refine x_world (w' := (wE cI cZ ad S' (eo ad (ad 0) (ad 7) (oc ao cJ (vp_updL fo 0 v.toInt64) (wM cI cZ am M' []))))) (wl_ME (D := D)).1 ((wl_ME (D := D)).2 _) ?_
  refine x_locals (lv' := [(0, .ref b), (1, .ref (ad 32)), (2, .ref (am 0)), (3, .ref ao), (4, .int i)]) [0, 1, 2, 3, 4] rfl ?_
  exact K _ _ _ (by omega) (by omega)
set_option maxHeartbeats 8000000 in
set_option maxRecDepth 100000 in
theorem LC_join_th0 {p : Program} {l : Launch} {e : Env} {s : State} {m : MethodId} {below : List Frame} {meth : Method} {c : Code} {D : va_G} {cI cZ cJ : ClassId} {ad am : Nat → Nat} {ao b L kk jj : Nat} {xs : Nat → Int32} {S M : St} {fo : Nat → Int64} {i : Int32} {Q : State → Prop} (C : XC p room_1 s m #[Value.ref b] meth c cL_law 7 (some .boolean) RL wsL_law D (t3 cI cZ cJ)) (G : LG s b L xs) (hfl : l.stackTraces = false) (hk : kk + 1 ≤ 1094) (hj : jj + 6 ≤ 10825) {a1 : Int32} {a2 : Int32} {a3 : Int32} (g1 : vp_in (i + 1) L) (e1 : xs (i + 1).toNatClampNeg = a1) (g2 : vp_in (i + 2) L) (e2 : xs (i + 2).toNatClampNeg = a2) (g3 : vp_in (i + 3) L) (e3 : xs (i + 3).toNatClampNeg = a3) {v : Int32} {vb : Int32} {S' : St} {M' : St} (h : X5_join S a1 a2 a3 = some (1, v, S')) (hM : X6_join M a1 a2 a3 = some (vb, M')) (hth : M' 0 25 = 1) (K : ∀ (fo' : Nat → Int64) (k' j' : Nat), k' ≤ kk + 1 → j' ≤ jj + 6 → XW p l e room_1 s m #[Value.ref b] below meth c D [] 7 Q (wE cI cZ ad S' (eo ad (ad 0) (ad 7) (oc ao cJ fo' (wM cI cZ am M' [])))) k' j' 1689 [(0, .ref b), (1, .ref (ad 32)), (2, .ref (am 0)), (3, .ref ao), (4, .int i)] []) : XW p l e room_1 s m #[Value.ref b] below meth c D [] 7 Q (wE cI cZ ad S (eo ad (ad 0) (ad 7) (oc ao cJ fo (wM cI cZ am M [])))) kk jj 1411 [(0, .ref b), (1, .ref (ad 32)), (2, .ref (am 0)), (3, .ref ao), (4, .int i)] [] := by
  refine x_aload_n C 1 dL_law_1411 rfl ?_
  refine x_aload_n C 0 dL_law_1412 rfl ?_
  refine x_iload C 4 dL_law_1413 rfl ?_
  refine x_iconst C (v := 1) dL_law_1415 (by decide) ?_
  refine x_iadd C dL_law_1416 ?_
  refine x_sld C G g1 e1 dL_law_1417 ?_
  refine x_aload_n C 0 dL_law_1418 rfl ?_
  refine x_iload C 4 dL_law_1419 rfl ?_
  refine x_iconst C (v := 2) dL_law_1421 (by decide) ?_
  refine x_iadd C dL_law_1422 ?_
  refine x_sld C G g2 e2 dL_law_1423 ?_
  refine x_aload_n C 0 dL_law_1424 rfl ?_
  refine x_iload C 4 dL_law_1425 rfl ?_
  refine x_iconst C (v := 3) dL_law_1427 (by decide) ?_
  refine x_iadd C dL_law_1428 ?_
  refine x_sld C G g3 e3 dL_law_1429 ?_
  refine x_aload_n C 3 dL_law_1430 rfl ?_
  refine x_ci (mc := 1) (ms := 6) (x_runSW C G.2.2.1 G.2.2.2 (As := [.ref (ad 32), .int a1, .int a2, .int a3, .ref ao]) (rest := []) (c_L_join_th0 hfl h) (cwl_join_th C) rfl (Nat.le_of_ble_eq_true rfl) dL_law_1431 ⟨by show kk + 1 ≤ 1094; omega, by show jj + 6 ≤ 10825; omega⟩) ?_
  refine x_istore C (lv' := [(0, .ref b), (1, .ref (ad 32)), (2, .ref (am 0)), (3, .ref ao), (4, .int i), (5, .int 1)]) dL_law_1434 (by decide) rfl ?_
  refine x_aload_n C 2 dL_law_1436 rfl ?_
  refine x_aload_n C 0 dL_law_1437 rfl ?_
  refine x_iload C 4 dL_law_1438 rfl ?_
  refine x_iconst C (v := 1) dL_law_1440 (by decide) ?_
  refine x_iadd C dL_law_1441 ?_
  refine x_sld C G g1 e1 dL_law_1442 ?_
  refine x_aload_n C 0 dL_law_1443 rfl ?_
  refine x_iload C 4 dL_law_1444 rfl ?_
  refine x_iconst C (v := 2) dL_law_1446 (by decide) ?_
  refine x_iadd C dL_law_1447 ?_
  refine x_sld C G g2 e2 dL_law_1448 ?_
  refine x_aload_n C 0 dL_law_1449 rfl ?_
  refine x_iload C 4 dL_law_1450 rfl ?_
  refine x_iconst C (v := 3) dL_law_1452 (by decide) ?_
  refine x_iadd C dL_law_1453 ?_
  refine x_sld C G g3 e3 dL_law_1454 ?_
  refine x_world (w' := (wM cI cZ am M (wE cI cZ ad S' (eo ad (ad 0) (ad 7) (oc ao cJ fo []))))) (wl_EM (D := D)).1 ((wl_EM (D := D)).2 _) ?_
  refine x_ci0 (x_runV C (As := [.int a1, .int a2, .int a3]) (rest := []) (c_X6_join hM) (cwl6_join C) 0 rfl rfl rfl (Nat.le_of_ble_eq_true rfl) dL_law_1455 ⟨by show kk + 1 + 0 ≤ 1094; omega, by show jj + 6 + 0 ≤ 10825; omega⟩) ?_
  refine x_istore C (lv' := [(0, .ref b), (1, .ref (ad 32)), (2, .ref (am 0)), (3, .ref ao), (4, .int i), (5, .int 1), (6, .int vb)]) dL_law_1458 (by decide) rfl ?_
  refine x_aload_n C 2 dL_law_1460 rfl ?_
  refine x_ci0 (x_runV C (As := []) (rest := []) (c_X6_thrown (S := M') (r := M' 0 25) rfl) (cwl6_thrown C) 0 rfl rfl rfl (Nat.le_of_ble_eq_true rfl) dL_law_1461 ⟨by show kk + 1 + 0 ≤ 1094; omega, by show jj + 6 + 0 ≤ 10825; omega⟩) ?_
  refine x_iload C 5 dL_law_1464 rfl ?_
  refine x_icmp_eq C (t := 1471) dL_law_1466 (by decide) (fun _ => ?_) (fun c1 => absurd hth c1)
  refine x_iload C 5 dL_law_1471 rfl ?_
  refine x_if_ne C (t := 1488) dL_law_1473 (by decide) (fun _ => ?_) (fun c1 => absurd c1 (by decide))
  refine x_goto C (t := 1689) dL_law_1488 (by decide) ?_
  refine x_world (w' := (wE cI cZ ad S' (eo ad (ad 0) (ad 7) (oc ao cJ fo (wM cI cZ am M' []))))) (wl_ME (D := D)).1 ((wl_ME (D := D)).2 _) ?_
  refine x_locals (lv' := [(0, .ref b), (1, .ref (ad 32)), (2, .ref (am 0)), (3, .ref ao), (4, .int i)]) [0, 1, 2, 3, 4] rfl ?_
  exact K _ _ _ (by omega) (by omega)
set_option maxHeartbeats 8000000 in
set_option maxRecDepth 100000 in
theorem LC_join_th1 {p : Program} {l : Launch} {e : Env} {s : State} {m : MethodId} {below : List Frame} {meth : Method} {c : Code} {D : va_G} {cI cZ cJ : ClassId} {ad am : Nat → Nat} {ao b L kk jj : Nat} {xs : Nat → Int32} {S M : St} {fo : Nat → Int64} {i : Int32} {Q : State → Prop} (C : XC p room_1 s m #[Value.ref b] meth c cL_law 7 (some .boolean) RL wsL_law D (t3 cI cZ cJ)) (G : LG s b L xs) (hfl : l.stackTraces = false) (hk : kk + 1 ≤ 1094) (hj : jj + 6 ≤ 10825) {a1 : Int32} {a2 : Int32} {a3 : Int32} (g1 : vp_in (i + 1) L) (e1 : xs (i + 1).toNatClampNeg = a1) (g2 : vp_in (i + 2) L) (e2 : xs (i + 2).toNatClampNeg = a2) (g3 : vp_in (i + 3) L) (e3 : xs (i + 3).toNatClampNeg = a3) {v : Int32} {vb : Int32} {S' : St} {M' : St} (h : X5_join S a1 a2 a3 = some (2, v, S')) (hM : X6_join M a1 a2 a3 = some (vb, M')) (hth : M' 0 25 = 2) (K : ∀ (fo' : Nat → Int64) (k' j' : Nat), k' ≤ kk + 1 → j' ≤ jj + 6 → XW p l e room_1 s m #[Value.ref b] below meth c D [] 7 Q (wE cI cZ ad S' (eo ad (ad 0) (ad 7) (oc ao cJ fo' (wM cI cZ am M' [])))) k' j' 1689 [(0, .ref b), (1, .ref (ad 32)), (2, .ref (am 0)), (3, .ref ao), (4, .int i)] []) : XW p l e room_1 s m #[Value.ref b] below meth c D [] 7 Q (wE cI cZ ad S (eo ad (ad 0) (ad 7) (oc ao cJ fo (wM cI cZ am M [])))) kk jj 1411 [(0, .ref b), (1, .ref (ad 32)), (2, .ref (am 0)), (3, .ref ao), (4, .int i)] [] := by
  refine x_aload_n C 1 dL_law_1411 rfl ?_
  refine x_aload_n C 0 dL_law_1412 rfl ?_
  refine x_iload C 4 dL_law_1413 rfl ?_
  refine x_iconst C (v := 1) dL_law_1415 (by decide) ?_
  refine x_iadd C dL_law_1416 ?_
  refine x_sld C G g1 e1 dL_law_1417 ?_
  refine x_aload_n C 0 dL_law_1418 rfl ?_
  refine x_iload C 4 dL_law_1419 rfl ?_
  refine x_iconst C (v := 2) dL_law_1421 (by decide) ?_
  refine x_iadd C dL_law_1422 ?_
  refine x_sld C G g2 e2 dL_law_1423 ?_
  refine x_aload_n C 0 dL_law_1424 rfl ?_
  refine x_iload C 4 dL_law_1425 rfl ?_
  refine x_iconst C (v := 3) dL_law_1427 (by decide) ?_
  refine x_iadd C dL_law_1428 ?_
  refine x_sld C G g3 e3 dL_law_1429 ?_
  refine x_aload_n C 3 dL_law_1430 rfl ?_
  refine x_ci (mc := 1) (ms := 6) (x_runSW C G.2.2.1 G.2.2.2 (As := [.ref (ad 32), .int a1, .int a2, .int a3, .ref ao]) (rest := []) (c_L_join_th1 hfl h) (cwl_join_th C) rfl (Nat.le_of_ble_eq_true rfl) dL_law_1431 ⟨by show kk + 1 ≤ 1094; omega, by show jj + 6 ≤ 10825; omega⟩) ?_
  refine x_istore C (lv' := [(0, .ref b), (1, .ref (ad 32)), (2, .ref (am 0)), (3, .ref ao), (4, .int i), (5, .int 2)]) dL_law_1434 (by decide) rfl ?_
  refine x_aload_n C 2 dL_law_1436 rfl ?_
  refine x_aload_n C 0 dL_law_1437 rfl ?_
  refine x_iload C 4 dL_law_1438 rfl ?_
  refine x_iconst C (v := 1) dL_law_1440 (by decide) ?_
  refine x_iadd C dL_law_1441 ?_
  refine x_sld C G g1 e1 dL_law_1442 ?_
  refine x_aload_n C 0 dL_law_1443 rfl ?_
  refine x_iload C 4 dL_law_1444 rfl ?_
  refine x_iconst C (v := 2) dL_law_1446 (by decide) ?_
  refine x_iadd C dL_law_1447 ?_
  refine x_sld C G g2 e2 dL_law_1448 ?_
  refine x_aload_n C 0 dL_law_1449 rfl ?_
  refine x_iload C 4 dL_law_1450 rfl ?_
  refine x_iconst C (v := 3) dL_law_1452 (by decide) ?_
  refine x_iadd C dL_law_1453 ?_
  refine x_sld C G g3 e3 dL_law_1454 ?_
  refine x_world (w' := (wM cI cZ am M (wE cI cZ ad S' (eo ad (ad 0) (ad 7) (oc ao cJ fo []))))) (wl_EM (D := D)).1 ((wl_EM (D := D)).2 _) ?_
  refine x_ci0 (x_runV C (As := [.int a1, .int a2, .int a3]) (rest := []) (c_X6_join hM) (cwl6_join C) 0 rfl rfl rfl (Nat.le_of_ble_eq_true rfl) dL_law_1455 ⟨by show kk + 1 + 0 ≤ 1094; omega, by show jj + 6 + 0 ≤ 10825; omega⟩) ?_
  refine x_istore C (lv' := [(0, .ref b), (1, .ref (ad 32)), (2, .ref (am 0)), (3, .ref ao), (4, .int i), (5, .int 2), (6, .int vb)]) dL_law_1458 (by decide) rfl ?_
  refine x_aload_n C 2 dL_law_1460 rfl ?_
  refine x_ci0 (x_runV C (As := []) (rest := []) (c_X6_thrown (S := M') (r := M' 0 25) rfl) (cwl6_thrown C) 0 rfl rfl rfl (Nat.le_of_ble_eq_true rfl) dL_law_1461 ⟨by show kk + 1 + 0 ≤ 1094; omega, by show jj + 6 + 0 ≤ 10825; omega⟩) ?_
  refine x_iload C 5 dL_law_1464 rfl ?_
  refine x_icmp_eq C (t := 1471) dL_law_1466 (by decide) (fun _ => ?_) (fun c1 => absurd hth c1)
  refine x_iload C 5 dL_law_1471 rfl ?_
  refine x_if_ne C (t := 1488) dL_law_1473 (by decide) (fun _ => ?_) (fun c1 => absurd c1 (by decide))
  refine x_goto C (t := 1689) dL_law_1488 (by decide) ?_
  refine x_world (w' := (wE cI cZ ad S' (eo ad (ad 0) (ad 7) (oc ao cJ fo (wM cI cZ am M' []))))) (wl_ME (D := D)).1 ((wl_ME (D := D)).2 _) ?_
  refine x_locals (lv' := [(0, .ref b), (1, .ref (ad 32)), (2, .ref (am 0)), (3, .ref ao), (4, .int i)]) [0, 1, 2, 3, 4] rfl ?_
  exact K _ _ _ (by omega) (by omega)
set_option maxHeartbeats 8000000 in
set_option maxRecDepth 100000 in
theorem LC_join_th2 {p : Program} {l : Launch} {e : Env} {s : State} {m : MethodId} {below : List Frame} {meth : Method} {c : Code} {D : va_G} {cI cZ cJ : ClassId} {ad am : Nat → Nat} {ao b L kk jj : Nat} {xs : Nat → Int32} {S M : St} {fo : Nat → Int64} {i : Int32} {Q : State → Prop} (C : XC p room_1 s m #[Value.ref b] meth c cL_law 7 (some .boolean) RL wsL_law D (t3 cI cZ cJ)) (G : LG s b L xs) (hfl : l.stackTraces = false) (hk : kk + 1 ≤ 1094) (hj : jj + 6 ≤ 10825) {a1 : Int32} {a2 : Int32} {a3 : Int32} (g1 : vp_in (i + 1) L) (e1 : xs (i + 1).toNatClampNeg = a1) (g2 : vp_in (i + 2) L) (e2 : xs (i + 2).toNatClampNeg = a2) (g3 : vp_in (i + 3) L) (e3 : xs (i + 3).toNatClampNeg = a3) {v : Int32} {vb : Int32} {S' : St} {M' : St} (h : X5_join S a1 a2 a3 = some (3, v, S')) (hM : X6_join M a1 a2 a3 = some (vb, M')) (hth : M' 0 25 = 3) (K : ∀ (fo' : Nat → Int64) (k' j' : Nat), k' ≤ kk + 1 → j' ≤ jj + 6 → XW p l e room_1 s m #[Value.ref b] below meth c D [] 7 Q (wE cI cZ ad S' (eo ad (ad 0) (ad 7) (oc ao cJ fo' (wM cI cZ am M' [])))) k' j' 1689 [(0, .ref b), (1, .ref (ad 32)), (2, .ref (am 0)), (3, .ref ao), (4, .int i)] []) : XW p l e room_1 s m #[Value.ref b] below meth c D [] 7 Q (wE cI cZ ad S (eo ad (ad 0) (ad 7) (oc ao cJ fo (wM cI cZ am M [])))) kk jj 1411 [(0, .ref b), (1, .ref (ad 32)), (2, .ref (am 0)), (3, .ref ao), (4, .int i)] [] := by
  refine x_aload_n C 1 dL_law_1411 rfl ?_
  refine x_aload_n C 0 dL_law_1412 rfl ?_
  refine x_iload C 4 dL_law_1413 rfl ?_
  refine x_iconst C (v := 1) dL_law_1415 (by decide) ?_
  refine x_iadd C dL_law_1416 ?_
  refine x_sld C G g1 e1 dL_law_1417 ?_
  refine x_aload_n C 0 dL_law_1418 rfl ?_
  refine x_iload C 4 dL_law_1419 rfl ?_
  refine x_iconst C (v := 2) dL_law_1421 (by decide) ?_
  refine x_iadd C dL_law_1422 ?_
  refine x_sld C G g2 e2 dL_law_1423 ?_
  refine x_aload_n C 0 dL_law_1424 rfl ?_
  refine x_iload C 4 dL_law_1425 rfl ?_
  refine x_iconst C (v := 3) dL_law_1427 (by decide) ?_
  refine x_iadd C dL_law_1428 ?_
  refine x_sld C G g3 e3 dL_law_1429 ?_
  refine x_aload_n C 3 dL_law_1430 rfl ?_
  refine x_ci (mc := 1) (ms := 6) (x_runSW C G.2.2.1 G.2.2.2 (As := [.ref (ad 32), .int a1, .int a2, .int a3, .ref ao]) (rest := []) (c_L_join_th2 hfl h) (cwl_join_th C) rfl (Nat.le_of_ble_eq_true rfl) dL_law_1431 ⟨by show kk + 1 ≤ 1094; omega, by show jj + 6 ≤ 10825; omega⟩) ?_
  refine x_istore C (lv' := [(0, .ref b), (1, .ref (ad 32)), (2, .ref (am 0)), (3, .ref ao), (4, .int i), (5, .int 3)]) dL_law_1434 (by decide) rfl ?_
  refine x_aload_n C 2 dL_law_1436 rfl ?_
  refine x_aload_n C 0 dL_law_1437 rfl ?_
  refine x_iload C 4 dL_law_1438 rfl ?_
  refine x_iconst C (v := 1) dL_law_1440 (by decide) ?_
  refine x_iadd C dL_law_1441 ?_
  refine x_sld C G g1 e1 dL_law_1442 ?_
  refine x_aload_n C 0 dL_law_1443 rfl ?_
  refine x_iload C 4 dL_law_1444 rfl ?_
  refine x_iconst C (v := 2) dL_law_1446 (by decide) ?_
  refine x_iadd C dL_law_1447 ?_
  refine x_sld C G g2 e2 dL_law_1448 ?_
  refine x_aload_n C 0 dL_law_1449 rfl ?_
  refine x_iload C 4 dL_law_1450 rfl ?_
  refine x_iconst C (v := 3) dL_law_1452 (by decide) ?_
  refine x_iadd C dL_law_1453 ?_
  refine x_sld C G g3 e3 dL_law_1454 ?_
  refine x_world (w' := (wM cI cZ am M (wE cI cZ ad S' (eo ad (ad 0) (ad 7) (oc ao cJ fo []))))) (wl_EM (D := D)).1 ((wl_EM (D := D)).2 _) ?_
  refine x_ci0 (x_runV C (As := [.int a1, .int a2, .int a3]) (rest := []) (c_X6_join hM) (cwl6_join C) 0 rfl rfl rfl (Nat.le_of_ble_eq_true rfl) dL_law_1455 ⟨by show kk + 1 + 0 ≤ 1094; omega, by show jj + 6 + 0 ≤ 10825; omega⟩) ?_
  refine x_istore C (lv' := [(0, .ref b), (1, .ref (ad 32)), (2, .ref (am 0)), (3, .ref ao), (4, .int i), (5, .int 3), (6, .int vb)]) dL_law_1458 (by decide) rfl ?_
  refine x_aload_n C 2 dL_law_1460 rfl ?_
  refine x_ci0 (x_runV C (As := []) (rest := []) (c_X6_thrown (S := M') (r := M' 0 25) rfl) (cwl6_thrown C) 0 rfl rfl rfl (Nat.le_of_ble_eq_true rfl) dL_law_1461 ⟨by show kk + 1 + 0 ≤ 1094; omega, by show jj + 6 + 0 ≤ 10825; omega⟩) ?_
  refine x_iload C 5 dL_law_1464 rfl ?_
  refine x_icmp_eq C (t := 1471) dL_law_1466 (by decide) (fun _ => ?_) (fun c1 => absurd hth c1)
  refine x_iload C 5 dL_law_1471 rfl ?_
  refine x_if_ne C (t := 1488) dL_law_1473 (by decide) (fun _ => ?_) (fun c1 => absurd c1 (by decide))
  refine x_goto C (t := 1689) dL_law_1488 (by decide) ?_
  refine x_world (w' := (wE cI cZ ad S' (eo ad (ad 0) (ad 7) (oc ao cJ fo (wM cI cZ am M' []))))) (wl_ME (D := D)).1 ((wl_ME (D := D)).2 _) ?_
  refine x_locals (lv' := [(0, .ref b), (1, .ref (ad 32)), (2, .ref (am 0)), (3, .ref ao), (4, .int i)]) [0, 1, 2, 3, 4] rfl ?_
  exact K _ _ _ (by omega) (by omega)
set_option maxHeartbeats 8000000 in
set_option maxRecDepth 100000 in
theorem LC_holds_ok {p : Program} {l : Launch} {e : Env} {s : State} {m : MethodId} {below : List Frame} {meth : Method} {c : Code} {D : va_G} {cI cZ cJ : ClassId} {ad am : Nat → Nat} {ao b L kk jj : Nat} {xs : Nat → Int32} {S M : St} {fo : Nat → Int64} {i : Int32} {Q : State → Prop} (C : XC p room_1 s m #[Value.ref b] meth c cL_law 7 (some .boolean) RL wsL_law D (t3 cI cZ cJ)) (G : LG s b L xs) (hfl : l.stackTraces = false) (hk : kk + 1 ≤ 1094) (hj : jj + 6 ≤ 10825) {a1 : Int32} {a2 : Int32} {a3 : Int32} (g1 : vp_in (i + 1) L) (e1 : xs (i + 1).toNatClampNeg = a1) (g2 : vp_in (i + 2) L) (e2 : xs (i + 2).toNatClampNeg = a2) (g3 : vp_in (i + 3) L) (e3 : xs (i + 3).toNatClampNeg = a3) {v : Int32} {S' : St} {M' : St} (h : X5_holds S a1 a2 a3 = some (0, v, S')) (hM : X6_holds M a1 a2 a3 = some (v, M')) (hth : M' 0 25 = 0) (K : ∀ (fo' : Nat → Int64) (k' j' : Nat), k' ≤ kk + 1 → j' ≤ jj + 6 → XW p l e room_1 s m #[Value.ref b] below meth c D [] 7 Q (wE cI cZ ad S' (eo ad (ad 0) (ad 7) (oc ao cJ fo' (wM cI cZ am M' [])))) k' j' 1689 [(0, .ref b), (1, .ref (ad 32)), (2, .ref (am 0)), (3, .ref ao), (4, .int i)] []) : XW p l e room_1 s m #[Value.ref b] below meth c D [] 7 Q (wE cI cZ ad S (eo ad (ad 0) (ad 7) (oc ao cJ fo (wM cI cZ am M [])))) kk jj 1491 [(0, .ref b), (1, .ref (ad 32)), (2, .ref (am 0)), (3, .ref ao), (4, .int i)] [] := by
  refine x_aload_n C 1 dL_law_1491 rfl ?_
  refine x_aload_n C 0 dL_law_1492 rfl ?_
  refine x_iload C 4 dL_law_1493 rfl ?_
  refine x_iconst C (v := 1) dL_law_1495 (by decide) ?_
  refine x_iadd C dL_law_1496 ?_
  refine x_sld C G g1 e1 dL_law_1497 ?_
  refine x_aload_n C 0 dL_law_1498 rfl ?_
  refine x_iload C 4 dL_law_1499 rfl ?_
  refine x_iconst C (v := 2) dL_law_1501 (by decide) ?_
  refine x_iadd C dL_law_1502 ?_
  refine x_sld C G g2 e2 dL_law_1503 ?_
  refine x_aload_n C 0 dL_law_1504 rfl ?_
  refine x_iload C 4 dL_law_1505 rfl ?_
  refine x_iconst C (v := 3) dL_law_1507 (by decide) ?_
  refine x_iadd C dL_law_1508 ?_
  refine x_sld C G g3 e3 dL_law_1509 ?_
  refine x_aload_n C 3 dL_law_1510 rfl ?_
  refine x_ci (mc := 0) (ms := 0) (x_runSW C G.2.2.1 G.2.2.2 (As := [.ref (ad 32), .int a1, .int a2, .int a3, .ref ao]) (rest := []) (c_L_holds_ok hfl h) (cwl_holds C) rfl (Nat.le_of_ble_eq_true rfl) dL_law_1511 ⟨by show kk + 0 ≤ 1094; omega, by show jj + 0 ≤ 10825; omega⟩) ?_
  refine x_istore C (lv' := [(0, .ref b), (1, .ref (ad 32)), (2, .ref (am 0)), (3, .ref ao), (4, .int i), (5, .int 0)]) dL_law_1514 (by decide) rfl ?_
  refine x_aload_n C 2 dL_law_1516 rfl ?_
  refine x_aload_n C 0 dL_law_1517 rfl ?_
  refine x_iload C 4 dL_law_1518 rfl ?_
  refine x_iconst C (v := 1) dL_law_1520 (by decide) ?_
  refine x_iadd C dL_law_1521 ?_
  refine x_sld C G g1 e1 dL_law_1522 ?_
  refine x_aload_n C 0 dL_law_1523 rfl ?_
  refine x_iload C 4 dL_law_1524 rfl ?_
  refine x_iconst C (v := 2) dL_law_1526 (by decide) ?_
  refine x_iadd C dL_law_1527 ?_
  refine x_sld C G g2 e2 dL_law_1528 ?_
  refine x_aload_n C 0 dL_law_1529 rfl ?_
  refine x_iload C 4 dL_law_1530 rfl ?_
  refine x_iconst C (v := 3) dL_law_1532 (by decide) ?_
  refine x_iadd C dL_law_1533 ?_
  refine x_sld C G g3 e3 dL_law_1534 ?_
  refine x_world (w' := (wM cI cZ am M (wE cI cZ ad S' (eo ad (ad 0) (ad 7) (oc ao cJ (vp_updL fo 0 v.toInt64) []))))) (wl_EM (D := D)).1 ((wl_EM (D := D)).2 _) ?_
  refine x_ci0 (x_runV C (As := [.int a1, .int a2, .int a3]) (rest := []) (c_X6_holds hM) (cwl6_holds C) 0 rfl rfl rfl (Nat.le_of_ble_eq_true rfl) dL_law_1535 ⟨by show kk + 0 + 0 ≤ 1094; omega, by show jj + 0 + 0 ≤ 10825; omega⟩) ?_
  refine x_istore C (lv' := [(0, .ref b), (1, .ref (ad 32)), (2, .ref (am 0)), (3, .ref ao), (4, .int i), (5, .int 0), (6, .int v)]) dL_law_1538 (by decide) rfl ?_
  refine x_aload_n C 2 dL_law_1540 rfl ?_
  refine x_ci0 (x_runV C (As := []) (rest := []) (c_X6_thrown (S := M') (r := M' 0 25) rfl) (cwl6_thrown C) 0 rfl rfl rfl (Nat.le_of_ble_eq_true rfl) dL_law_1541 ⟨by show kk + 0 + 0 ≤ 1094; omega, by show jj + 0 + 0 ≤ 10825; omega⟩) ?_
  refine x_iload C 5 dL_law_1544 rfl ?_
  refine x_icmp_eq C (t := 1551) dL_law_1546 (by decide) (fun _ => ?_) (fun c1 => absurd hth c1)
  refine x_iload C 5 dL_law_1551 rfl ?_
  refine x_if_ne C (t := 1568) dL_law_1553 (by decide) (fun c1 => absurd rfl c1) (fun _ => ?_)
  refine x_aload_n C 3 dL_law_1556 rfl ?_
  refine x_iconst C (v := 0) dL_law_1557 (by decide) ?_
  refine x_lald C 57 rfl (show ¬ ((0:Int32) < 0 ∨ 1 ≤ (0:Int32).toNatClampNeg) by decide) dL_law_1558 ?_
  refine x_iload C 6 dL_law_1559 rfl ?_
  refine x_i2l C dL_law_1561 ?_
  refine x_lcmp C dL_law_1562 ?_
  refine x_if_eq C (t := 1568) dL_law_1563 (by decide) (fun _ => ?_) (fun c1 => absurd (lg_self _ _) c1)
  refine x_goto C (t := 1689) dL_law_1568 (by decide) ?_
  refine x_world (w' := (wE cI cZ ad S' (eo ad (ad 0) (ad 7) (oc ao cJ (vp_updL fo 0 v.toInt64) (wM cI cZ am M' []))))) (wl_ME (D := D)).1 ((wl_ME (D := D)).2 _) ?_
  refine x_locals (lv' := [(0, .ref b), (1, .ref (ad 32)), (2, .ref (am 0)), (3, .ref ao), (4, .int i)]) [0, 1, 2, 3, 4] rfl ?_
  exact K _ _ _ (by omega) (by omega)
set_option maxHeartbeats 8000000 in
set_option maxRecDepth 100000 in
theorem LC_holds_th0 {p : Program} {l : Launch} {e : Env} {s : State} {m : MethodId} {below : List Frame} {meth : Method} {c : Code} {D : va_G} {cI cZ cJ : ClassId} {ad am : Nat → Nat} {ao b L kk jj : Nat} {xs : Nat → Int32} {S M : St} {fo : Nat → Int64} {i : Int32} {Q : State → Prop} (C : XC p room_1 s m #[Value.ref b] meth c cL_law 7 (some .boolean) RL wsL_law D (t3 cI cZ cJ)) (G : LG s b L xs) (hfl : l.stackTraces = false) (hk : kk + 1 ≤ 1094) (hj : jj + 6 ≤ 10825) {a1 : Int32} {a2 : Int32} {a3 : Int32} (g1 : vp_in (i + 1) L) (e1 : xs (i + 1).toNatClampNeg = a1) (g2 : vp_in (i + 2) L) (e2 : xs (i + 2).toNatClampNeg = a2) (g3 : vp_in (i + 3) L) (e3 : xs (i + 3).toNatClampNeg = a3) {v : Int32} {vb : Int32} {S' : St} {M' : St} (h : X5_holds S a1 a2 a3 = some (1, v, S')) (hM : X6_holds M a1 a2 a3 = some (vb, M')) (hth : M' 0 25 = 1) (K : ∀ (fo' : Nat → Int64) (k' j' : Nat), k' ≤ kk + 1 → j' ≤ jj + 6 → XW p l e room_1 s m #[Value.ref b] below meth c D [] 7 Q (wE cI cZ ad S' (eo ad (ad 0) (ad 7) (oc ao cJ fo' (wM cI cZ am M' [])))) k' j' 1689 [(0, .ref b), (1, .ref (ad 32)), (2, .ref (am 0)), (3, .ref ao), (4, .int i)] []) : XW p l e room_1 s m #[Value.ref b] below meth c D [] 7 Q (wE cI cZ ad S (eo ad (ad 0) (ad 7) (oc ao cJ fo (wM cI cZ am M [])))) kk jj 1491 [(0, .ref b), (1, .ref (ad 32)), (2, .ref (am 0)), (3, .ref ao), (4, .int i)] [] := by
  refine x_aload_n C 1 dL_law_1491 rfl ?_
  refine x_aload_n C 0 dL_law_1492 rfl ?_
  refine x_iload C 4 dL_law_1493 rfl ?_
  refine x_iconst C (v := 1) dL_law_1495 (by decide) ?_
  refine x_iadd C dL_law_1496 ?_
  refine x_sld C G g1 e1 dL_law_1497 ?_
  refine x_aload_n C 0 dL_law_1498 rfl ?_
  refine x_iload C 4 dL_law_1499 rfl ?_
  refine x_iconst C (v := 2) dL_law_1501 (by decide) ?_
  refine x_iadd C dL_law_1502 ?_
  refine x_sld C G g2 e2 dL_law_1503 ?_
  refine x_aload_n C 0 dL_law_1504 rfl ?_
  refine x_iload C 4 dL_law_1505 rfl ?_
  refine x_iconst C (v := 3) dL_law_1507 (by decide) ?_
  refine x_iadd C dL_law_1508 ?_
  refine x_sld C G g3 e3 dL_law_1509 ?_
  refine x_aload_n C 3 dL_law_1510 rfl ?_
  refine x_ci (mc := 1) (ms := 6) (x_runSW C G.2.2.1 G.2.2.2 (As := [.ref (ad 32), .int a1, .int a2, .int a3, .ref ao]) (rest := []) (c_L_holds_th0 hfl h) (cwl_holds_th C) rfl (Nat.le_of_ble_eq_true rfl) dL_law_1511 ⟨by show kk + 1 ≤ 1094; omega, by show jj + 6 ≤ 10825; omega⟩) ?_
  refine x_istore C (lv' := [(0, .ref b), (1, .ref (ad 32)), (2, .ref (am 0)), (3, .ref ao), (4, .int i), (5, .int 1)]) dL_law_1514 (by decide) rfl ?_
  refine x_aload_n C 2 dL_law_1516 rfl ?_
  refine x_aload_n C 0 dL_law_1517 rfl ?_
  refine x_iload C 4 dL_law_1518 rfl ?_
  refine x_iconst C (v := 1) dL_law_1520 (by decide) ?_
  refine x_iadd C dL_law_1521 ?_
  refine x_sld C G g1 e1 dL_law_1522 ?_
  refine x_aload_n C 0 dL_law_1523 rfl ?_
  refine x_iload C 4 dL_law_1524 rfl ?_
  refine x_iconst C (v := 2) dL_law_1526 (by decide) ?_
  refine x_iadd C dL_law_1527 ?_
  refine x_sld C G g2 e2 dL_law_1528 ?_
  refine x_aload_n C 0 dL_law_1529 rfl ?_
  refine x_iload C 4 dL_law_1530 rfl ?_
  refine x_iconst C (v := 3) dL_law_1532 (by decide) ?_
  refine x_iadd C dL_law_1533 ?_
  refine x_sld C G g3 e3 dL_law_1534 ?_
  refine x_world (w' := (wM cI cZ am M (wE cI cZ ad S' (eo ad (ad 0) (ad 7) (oc ao cJ fo []))))) (wl_EM (D := D)).1 ((wl_EM (D := D)).2 _) ?_
  refine x_ci0 (x_runV C (As := [.int a1, .int a2, .int a3]) (rest := []) (c_X6_holds hM) (cwl6_holds C) 0 rfl rfl rfl (Nat.le_of_ble_eq_true rfl) dL_law_1535 ⟨by show kk + 1 + 0 ≤ 1094; omega, by show jj + 6 + 0 ≤ 10825; omega⟩) ?_
  refine x_istore C (lv' := [(0, .ref b), (1, .ref (ad 32)), (2, .ref (am 0)), (3, .ref ao), (4, .int i), (5, .int 1), (6, .int vb)]) dL_law_1538 (by decide) rfl ?_
  refine x_aload_n C 2 dL_law_1540 rfl ?_
  refine x_ci0 (x_runV C (As := []) (rest := []) (c_X6_thrown (S := M') (r := M' 0 25) rfl) (cwl6_thrown C) 0 rfl rfl rfl (Nat.le_of_ble_eq_true rfl) dL_law_1541 ⟨by show kk + 1 + 0 ≤ 1094; omega, by show jj + 6 + 0 ≤ 10825; omega⟩) ?_
  refine x_iload C 5 dL_law_1544 rfl ?_
  refine x_icmp_eq C (t := 1551) dL_law_1546 (by decide) (fun _ => ?_) (fun c1 => absurd hth c1)
  refine x_iload C 5 dL_law_1551 rfl ?_
  refine x_if_ne C (t := 1568) dL_law_1553 (by decide) (fun _ => ?_) (fun c1 => absurd c1 (by decide))
  refine x_goto C (t := 1689) dL_law_1568 (by decide) ?_
  refine x_world (w' := (wE cI cZ ad S' (eo ad (ad 0) (ad 7) (oc ao cJ fo (wM cI cZ am M' []))))) (wl_ME (D := D)).1 ((wl_ME (D := D)).2 _) ?_
  refine x_locals (lv' := [(0, .ref b), (1, .ref (ad 32)), (2, .ref (am 0)), (3, .ref ao), (4, .int i)]) [0, 1, 2, 3, 4] rfl ?_
  exact K _ _ _ (by omega) (by omega)
set_option maxHeartbeats 8000000 in
set_option maxRecDepth 100000 in
theorem LC_search_ok {p : Program} {l : Launch} {e : Env} {s : State} {m : MethodId} {below : List Frame} {meth : Method} {c : Code} {D : va_G} {cI cZ cJ : ClassId} {ad am : Nat → Nat} {ao b L kk jj : Nat} {xs : Nat → Int32} {S M : St} {fo : Nat → Int64} {i : Int32} {Q : State → Prop} (C : XC p room_1 s m #[Value.ref b] meth c cL_law 7 (some .boolean) RL wsL_law D (t3 cI cZ cJ)) (G : LG s b L xs) (hfl : l.stackTraces = false) (hk : kk + 1 ≤ 1094) (hj : jj + 6 ≤ 10825) {a1 : Int32} {a2 : Int32} {a3 : Int32} {a4 : Int32} {a5 : Int32} {a6 : Int32} (g1 : vp_in (i + 1) L) (e1 : xs (i + 1).toNatClampNeg = a1) (g2 : vp_in (i + 2) L) (e2 : xs (i + 2).toNatClampNeg = a2) (g3 : vp_in (i + 3) L) (e3 : xs (i + 3).toNatClampNeg = a3) (g4 : vp_in (i + 4) L) (e4 : xs (i + 4).toNatClampNeg = a4) (g5 : vp_in (i + 5) L) (e5 : xs (i + 5).toNatClampNeg = a5) (g6 : vp_in (i + 6) L) (e6 : xs (i + 6).toNatClampNeg = a6) {v : Int32} {S' : St} {M' : St} (h : X5_search S a1 a2 a3 a4 a5 a6 = some (0, v, S')) (hM : X6_search M a1 a2 a3 a4 a5 a6 = some (v, M')) (hth : M' 0 25 = 0) (K : ∀ (fo' : Nat → Int64) (k' j' : Nat), k' ≤ kk + 1 → j' ≤ jj + 6 → XW p l e room_1 s m #[Value.ref b] below meth c D [] 7 Q (wE cI cZ ad S' (eo ad (ad 0) (ad 7) (oc ao cJ fo' (wM cI cZ am M' [])))) k' j' 1689 [(0, .ref b), (1, .ref (ad 32)), (2, .ref (am 0)), (3, .ref ao), (4, .int i)] []) : XW p l e room_1 s m #[Value.ref b] below meth c D [] 7 Q (wE cI cZ ad S (eo ad (ad 0) (ad 7) (oc ao cJ fo (wM cI cZ am M [])))) kk jj 1571 [(0, .ref b), (1, .ref (ad 32)), (2, .ref (am 0)), (3, .ref ao), (4, .int i)] [] := by
  refine x_aload_n C 1 dL_law_1571 rfl ?_
  refine x_aload_n C 0 dL_law_1572 rfl ?_
  refine x_iload C 4 dL_law_1573 rfl ?_
  refine x_iconst C (v := 1) dL_law_1575 (by decide) ?_
  refine x_iadd C dL_law_1576 ?_
  refine x_sld C G g1 e1 dL_law_1577 ?_
  refine x_aload_n C 0 dL_law_1578 rfl ?_
  refine x_iload C 4 dL_law_1579 rfl ?_
  refine x_iconst C (v := 2) dL_law_1581 (by decide) ?_
  refine x_iadd C dL_law_1582 ?_
  refine x_sld C G g2 e2 dL_law_1583 ?_
  refine x_aload_n C 0 dL_law_1584 rfl ?_
  refine x_iload C 4 dL_law_1585 rfl ?_
  refine x_iconst C (v := 3) dL_law_1587 (by decide) ?_
  refine x_iadd C dL_law_1588 ?_
  refine x_sld C G g3 e3 dL_law_1589 ?_
  refine x_aload_n C 0 dL_law_1590 rfl ?_
  refine x_iload C 4 dL_law_1591 rfl ?_
  refine x_iconst C (v := 4) dL_law_1593 (by decide) ?_
  refine x_iadd C dL_law_1594 ?_
  refine x_sld C G g4 e4 dL_law_1595 ?_
  refine x_aload_n C 0 dL_law_1596 rfl ?_
  refine x_iload C 4 dL_law_1597 rfl ?_
  refine x_iconst C (v := 5) dL_law_1599 (by decide) ?_
  refine x_iadd C dL_law_1600 ?_
  refine x_sld C G g5 e5 dL_law_1601 ?_
  refine x_aload_n C 0 dL_law_1602 rfl ?_
  refine x_iload C 4 dL_law_1603 rfl ?_
  refine x_bipush C (v := 6) dL_law_1605 (by decide) ?_
  refine x_iadd C dL_law_1607 ?_
  refine x_sld C G g6 e6 dL_law_1608 ?_
  refine x_aload_n C 3 dL_law_1609 rfl ?_
  refine x_ci (mc := 0) (ms := 0) (x_runSW C G.2.2.1 G.2.2.2 (As := [.ref (ad 32), .int a1, .int a2, .int a3, .int a4, .int a5, .int a6, .ref ao]) (rest := []) (c_L_search_ok hfl h) (cwl_search C) rfl (Nat.le_of_ble_eq_true rfl) dL_law_1610 ⟨by show kk + 0 ≤ 1094; omega, by show jj + 0 ≤ 10825; omega⟩) ?_
  refine x_istore C (lv' := [(0, .ref b), (1, .ref (ad 32)), (2, .ref (am 0)), (3, .ref ao), (4, .int i), (5, .int 0)]) dL_law_1613 (by decide) rfl ?_
  refine x_aload_n C 2 dL_law_1615 rfl ?_
  refine x_aload_n C 0 dL_law_1616 rfl ?_
  refine x_iload C 4 dL_law_1617 rfl ?_
  refine x_iconst C (v := 1) dL_law_1619 (by decide) ?_
  refine x_iadd C dL_law_1620 ?_
  refine x_sld C G g1 e1 dL_law_1621 ?_
  refine x_aload_n C 0 dL_law_1622 rfl ?_
  refine x_iload C 4 dL_law_1623 rfl ?_
  refine x_iconst C (v := 2) dL_law_1625 (by decide) ?_
  refine x_iadd C dL_law_1626 ?_
  refine x_sld C G g2 e2 dL_law_1627 ?_
  refine x_aload_n C 0 dL_law_1628 rfl ?_
  refine x_iload C 4 dL_law_1629 rfl ?_
  refine x_iconst C (v := 3) dL_law_1631 (by decide) ?_
  refine x_iadd C dL_law_1632 ?_
  refine x_sld C G g3 e3 dL_law_1633 ?_
  refine x_aload_n C 0 dL_law_1634 rfl ?_
  refine x_iload C 4 dL_law_1635 rfl ?_
  refine x_iconst C (v := 4) dL_law_1637 (by decide) ?_
  refine x_iadd C dL_law_1638 ?_
  refine x_sld C G g4 e4 dL_law_1639 ?_
  refine x_aload_n C 0 dL_law_1640 rfl ?_
  refine x_iload C 4 dL_law_1641 rfl ?_
  refine x_iconst C (v := 5) dL_law_1643 (by decide) ?_
  refine x_iadd C dL_law_1644 ?_
  refine x_sld C G g5 e5 dL_law_1645 ?_
  refine x_aload_n C 0 dL_law_1646 rfl ?_
  refine x_iload C 4 dL_law_1647 rfl ?_
  refine x_bipush C (v := 6) dL_law_1649 (by decide) ?_
  refine x_iadd C dL_law_1651 ?_
  refine x_sld C G g6 e6 dL_law_1652 ?_
  refine x_world (w' := (wM cI cZ am M (wE cI cZ ad S' (eo ad (ad 0) (ad 7) (oc ao cJ (vp_updL fo 0 v.toInt64) []))))) (wl_EM (D := D)).1 ((wl_EM (D := D)).2 _) ?_
  refine x_ci0 (x_runV C (As := [.int a1, .int a2, .int a3, .int a4, .int a5, .int a6]) (rest := []) (c_X6_search hM) (cwl6_search C) 0 rfl rfl rfl (Nat.le_of_ble_eq_true rfl) dL_law_1653 ⟨by show kk + 0 + 0 ≤ 1094; omega, by show jj + 0 + 0 ≤ 10825; omega⟩) ?_
  refine x_istore C (lv' := [(0, .ref b), (1, .ref (ad 32)), (2, .ref (am 0)), (3, .ref ao), (4, .int i), (5, .int 0), (6, .int v)]) dL_law_1656 (by decide) rfl ?_
  refine x_aload_n C 2 dL_law_1658 rfl ?_
  refine x_ci0 (x_runV C (As := []) (rest := []) (c_X6_thrown (S := M') (r := M' 0 25) rfl) (cwl6_thrown C) 0 rfl rfl rfl (Nat.le_of_ble_eq_true rfl) dL_law_1659 ⟨by show kk + 0 + 0 ≤ 1094; omega, by show jj + 0 + 0 ≤ 10825; omega⟩) ?_
  refine x_iload C 5 dL_law_1662 rfl ?_
  refine x_icmp_eq C (t := 1669) dL_law_1664 (by decide) (fun _ => ?_) (fun c1 => absurd hth c1)
  refine x_iload C 5 dL_law_1669 rfl ?_
  refine x_if_ne C (t := 1686) dL_law_1671 (by decide) (fun c1 => absurd rfl c1) (fun _ => ?_)
  refine x_aload_n C 3 dL_law_1674 rfl ?_
  refine x_iconst C (v := 0) dL_law_1675 (by decide) ?_
  refine x_lald C 57 rfl (show ¬ ((0:Int32) < 0 ∨ 1 ≤ (0:Int32).toNatClampNeg) by decide) dL_law_1676 ?_
  refine x_iload C 6 dL_law_1677 rfl ?_
  refine x_i2l C dL_law_1679 ?_
  refine x_lcmp C dL_law_1680 ?_
  refine x_if_eq C (t := 1686) dL_law_1681 (by decide) (fun _ => ?_) (fun c1 => absurd (lg_self _ _) c1)
  refine x_goto C (t := 1689) dL_law_1686 (by decide) ?_
  refine x_world (w' := (wE cI cZ ad S' (eo ad (ad 0) (ad 7) (oc ao cJ (vp_updL fo 0 v.toInt64) (wM cI cZ am M' []))))) (wl_ME (D := D)).1 ((wl_ME (D := D)).2 _) ?_
  refine x_locals (lv' := [(0, .ref b), (1, .ref (ad 32)), (2, .ref (am 0)), (3, .ref ao), (4, .int i)]) [0, 1, 2, 3, 4] rfl ?_
  exact K _ _ _ (by omega) (by omega)
set_option maxHeartbeats 8000000 in
set_option maxRecDepth 100000 in
theorem LC_search_th0 {p : Program} {l : Launch} {e : Env} {s : State} {m : MethodId} {below : List Frame} {meth : Method} {c : Code} {D : va_G} {cI cZ cJ : ClassId} {ad am : Nat → Nat} {ao b L kk jj : Nat} {xs : Nat → Int32} {S M : St} {fo : Nat → Int64} {i : Int32} {Q : State → Prop} (C : XC p room_1 s m #[Value.ref b] meth c cL_law 7 (some .boolean) RL wsL_law D (t3 cI cZ cJ)) (G : LG s b L xs) (hfl : l.stackTraces = false) (hk : kk + 1 ≤ 1094) (hj : jj + 6 ≤ 10825) {a1 : Int32} {a2 : Int32} {a3 : Int32} {a4 : Int32} {a5 : Int32} {a6 : Int32} (g1 : vp_in (i + 1) L) (e1 : xs (i + 1).toNatClampNeg = a1) (g2 : vp_in (i + 2) L) (e2 : xs (i + 2).toNatClampNeg = a2) (g3 : vp_in (i + 3) L) (e3 : xs (i + 3).toNatClampNeg = a3) (g4 : vp_in (i + 4) L) (e4 : xs (i + 4).toNatClampNeg = a4) (g5 : vp_in (i + 5) L) (e5 : xs (i + 5).toNatClampNeg = a5) (g6 : vp_in (i + 6) L) (e6 : xs (i + 6).toNatClampNeg = a6) {v : Int32} {vb : Int32} {S' : St} {M' : St} (h : X5_search S a1 a2 a3 a4 a5 a6 = some (1, v, S')) (hM : X6_search M a1 a2 a3 a4 a5 a6 = some (vb, M')) (hth : M' 0 25 = 1) (K : ∀ (fo' : Nat → Int64) (k' j' : Nat), k' ≤ kk + 1 → j' ≤ jj + 6 → XW p l e room_1 s m #[Value.ref b] below meth c D [] 7 Q (wE cI cZ ad S' (eo ad (ad 0) (ad 7) (oc ao cJ fo' (wM cI cZ am M' [])))) k' j' 1689 [(0, .ref b), (1, .ref (ad 32)), (2, .ref (am 0)), (3, .ref ao), (4, .int i)] []) : XW p l e room_1 s m #[Value.ref b] below meth c D [] 7 Q (wE cI cZ ad S (eo ad (ad 0) (ad 7) (oc ao cJ fo (wM cI cZ am M [])))) kk jj 1571 [(0, .ref b), (1, .ref (ad 32)), (2, .ref (am 0)), (3, .ref ao), (4, .int i)] [] := by
  refine x_aload_n C 1 dL_law_1571 rfl ?_
  refine x_aload_n C 0 dL_law_1572 rfl ?_
  refine x_iload C 4 dL_law_1573 rfl ?_
  refine x_iconst C (v := 1) dL_law_1575 (by decide) ?_
  refine x_iadd C dL_law_1576 ?_
  refine x_sld C G g1 e1 dL_law_1577 ?_
  refine x_aload_n C 0 dL_law_1578 rfl ?_
  refine x_iload C 4 dL_law_1579 rfl ?_
  refine x_iconst C (v := 2) dL_law_1581 (by decide) ?_
  refine x_iadd C dL_law_1582 ?_
  refine x_sld C G g2 e2 dL_law_1583 ?_
  refine x_aload_n C 0 dL_law_1584 rfl ?_
  refine x_iload C 4 dL_law_1585 rfl ?_
  refine x_iconst C (v := 3) dL_law_1587 (by decide) ?_
  refine x_iadd C dL_law_1588 ?_
  refine x_sld C G g3 e3 dL_law_1589 ?_
  refine x_aload_n C 0 dL_law_1590 rfl ?_
  refine x_iload C 4 dL_law_1591 rfl ?_
  refine x_iconst C (v := 4) dL_law_1593 (by decide) ?_
  refine x_iadd C dL_law_1594 ?_
  refine x_sld C G g4 e4 dL_law_1595 ?_
  refine x_aload_n C 0 dL_law_1596 rfl ?_
  refine x_iload C 4 dL_law_1597 rfl ?_
  refine x_iconst C (v := 5) dL_law_1599 (by decide) ?_
  refine x_iadd C dL_law_1600 ?_
  refine x_sld C G g5 e5 dL_law_1601 ?_
  refine x_aload_n C 0 dL_law_1602 rfl ?_
  refine x_iload C 4 dL_law_1603 rfl ?_
  refine x_bipush C (v := 6) dL_law_1605 (by decide) ?_
  refine x_iadd C dL_law_1607 ?_
  refine x_sld C G g6 e6 dL_law_1608 ?_
  refine x_aload_n C 3 dL_law_1609 rfl ?_
  refine x_ci (mc := 1) (ms := 6) (x_runSW C G.2.2.1 G.2.2.2 (As := [.ref (ad 32), .int a1, .int a2, .int a3, .int a4, .int a5, .int a6, .ref ao]) (rest := []) (c_L_search_th0 hfl h) (cwl_search_th C) rfl (Nat.le_of_ble_eq_true rfl) dL_law_1610 ⟨by show kk + 1 ≤ 1094; omega, by show jj + 6 ≤ 10825; omega⟩) ?_
  refine x_istore C (lv' := [(0, .ref b), (1, .ref (ad 32)), (2, .ref (am 0)), (3, .ref ao), (4, .int i), (5, .int 1)]) dL_law_1613 (by decide) rfl ?_
  refine x_aload_n C 2 dL_law_1615 rfl ?_
  refine x_aload_n C 0 dL_law_1616 rfl ?_
  refine x_iload C 4 dL_law_1617 rfl ?_
  refine x_iconst C (v := 1) dL_law_1619 (by decide) ?_
  refine x_iadd C dL_law_1620 ?_
  refine x_sld C G g1 e1 dL_law_1621 ?_
  refine x_aload_n C 0 dL_law_1622 rfl ?_
  refine x_iload C 4 dL_law_1623 rfl ?_
  refine x_iconst C (v := 2) dL_law_1625 (by decide) ?_
  refine x_iadd C dL_law_1626 ?_
  refine x_sld C G g2 e2 dL_law_1627 ?_
  refine x_aload_n C 0 dL_law_1628 rfl ?_
  refine x_iload C 4 dL_law_1629 rfl ?_
  refine x_iconst C (v := 3) dL_law_1631 (by decide) ?_
  refine x_iadd C dL_law_1632 ?_
  refine x_sld C G g3 e3 dL_law_1633 ?_
  refine x_aload_n C 0 dL_law_1634 rfl ?_
  refine x_iload C 4 dL_law_1635 rfl ?_
  refine x_iconst C (v := 4) dL_law_1637 (by decide) ?_
  refine x_iadd C dL_law_1638 ?_
  refine x_sld C G g4 e4 dL_law_1639 ?_
  refine x_aload_n C 0 dL_law_1640 rfl ?_
  refine x_iload C 4 dL_law_1641 rfl ?_
  refine x_iconst C (v := 5) dL_law_1643 (by decide) ?_
  refine x_iadd C dL_law_1644 ?_
  refine x_sld C G g5 e5 dL_law_1645 ?_
  refine x_aload_n C 0 dL_law_1646 rfl ?_
  refine x_iload C 4 dL_law_1647 rfl ?_
  refine x_bipush C (v := 6) dL_law_1649 (by decide) ?_
  refine x_iadd C dL_law_1651 ?_
  refine x_sld C G g6 e6 dL_law_1652 ?_
  refine x_world (w' := (wM cI cZ am M (wE cI cZ ad S' (eo ad (ad 0) (ad 7) (oc ao cJ fo []))))) (wl_EM (D := D)).1 ((wl_EM (D := D)).2 _) ?_
  refine x_ci0 (x_runV C (As := [.int a1, .int a2, .int a3, .int a4, .int a5, .int a6]) (rest := []) (c_X6_search hM) (cwl6_search C) 0 rfl rfl rfl (Nat.le_of_ble_eq_true rfl) dL_law_1653 ⟨by show kk + 1 + 0 ≤ 1094; omega, by show jj + 6 + 0 ≤ 10825; omega⟩) ?_
  refine x_istore C (lv' := [(0, .ref b), (1, .ref (ad 32)), (2, .ref (am 0)), (3, .ref ao), (4, .int i), (5, .int 1), (6, .int vb)]) dL_law_1656 (by decide) rfl ?_
  refine x_aload_n C 2 dL_law_1658 rfl ?_
  refine x_ci0 (x_runV C (As := []) (rest := []) (c_X6_thrown (S := M') (r := M' 0 25) rfl) (cwl6_thrown C) 0 rfl rfl rfl (Nat.le_of_ble_eq_true rfl) dL_law_1659 ⟨by show kk + 1 + 0 ≤ 1094; omega, by show jj + 6 + 0 ≤ 10825; omega⟩) ?_
  refine x_iload C 5 dL_law_1662 rfl ?_
  refine x_icmp_eq C (t := 1669) dL_law_1664 (by decide) (fun _ => ?_) (fun c1 => absurd hth c1)
  refine x_iload C 5 dL_law_1669 rfl ?_
  refine x_if_ne C (t := 1686) dL_law_1671 (by decide) (fun _ => ?_) (fun c1 => absurd c1 (by decide))
  refine x_goto C (t := 1689) dL_law_1686 (by decide) ?_
  refine x_world (w' := (wE cI cZ ad S' (eo ad (ad 0) (ad 7) (oc ao cJ fo (wM cI cZ am M' []))))) (wl_ME (D := D)).1 ((wl_ME (D := D)).2 _) ?_
  refine x_locals (lv' := [(0, .ref b), (1, .ref (ad 32)), (2, .ref (am 0)), (3, .ref ao), (4, .int i)]) [0, 1, 2, 3, 4] rfl ?_
  exact K _ _ _ (by omega) (by omega)
set_option maxHeartbeats 8000000 in
set_option maxRecDepth 100000 in
theorem LC_search_th1 {p : Program} {l : Launch} {e : Env} {s : State} {m : MethodId} {below : List Frame} {meth : Method} {c : Code} {D : va_G} {cI cZ cJ : ClassId} {ad am : Nat → Nat} {ao b L kk jj : Nat} {xs : Nat → Int32} {S M : St} {fo : Nat → Int64} {i : Int32} {Q : State → Prop} (C : XC p room_1 s m #[Value.ref b] meth c cL_law 7 (some .boolean) RL wsL_law D (t3 cI cZ cJ)) (G : LG s b L xs) (hfl : l.stackTraces = false) (hk : kk + 1 ≤ 1094) (hj : jj + 6 ≤ 10825) {a1 : Int32} {a2 : Int32} {a3 : Int32} {a4 : Int32} {a5 : Int32} {a6 : Int32} (g1 : vp_in (i + 1) L) (e1 : xs (i + 1).toNatClampNeg = a1) (g2 : vp_in (i + 2) L) (e2 : xs (i + 2).toNatClampNeg = a2) (g3 : vp_in (i + 3) L) (e3 : xs (i + 3).toNatClampNeg = a3) (g4 : vp_in (i + 4) L) (e4 : xs (i + 4).toNatClampNeg = a4) (g5 : vp_in (i + 5) L) (e5 : xs (i + 5).toNatClampNeg = a5) (g6 : vp_in (i + 6) L) (e6 : xs (i + 6).toNatClampNeg = a6) {v : Int32} {vb : Int32} {S' : St} {M' : St} (h : X5_search S a1 a2 a3 a4 a5 a6 = some (2, v, S')) (hM : X6_search M a1 a2 a3 a4 a5 a6 = some (vb, M')) (hth : M' 0 25 = 2) (K : ∀ (fo' : Nat → Int64) (k' j' : Nat), k' ≤ kk + 1 → j' ≤ jj + 6 → XW p l e room_1 s m #[Value.ref b] below meth c D [] 7 Q (wE cI cZ ad S' (eo ad (ad 0) (ad 7) (oc ao cJ fo' (wM cI cZ am M' [])))) k' j' 1689 [(0, .ref b), (1, .ref (ad 32)), (2, .ref (am 0)), (3, .ref ao), (4, .int i)] []) : XW p l e room_1 s m #[Value.ref b] below meth c D [] 7 Q (wE cI cZ ad S (eo ad (ad 0) (ad 7) (oc ao cJ fo (wM cI cZ am M [])))) kk jj 1571 [(0, .ref b), (1, .ref (ad 32)), (2, .ref (am 0)), (3, .ref ao), (4, .int i)] [] := by
  refine x_aload_n C 1 dL_law_1571 rfl ?_
  refine x_aload_n C 0 dL_law_1572 rfl ?_
  refine x_iload C 4 dL_law_1573 rfl ?_
  refine x_iconst C (v := 1) dL_law_1575 (by decide) ?_
  refine x_iadd C dL_law_1576 ?_
  refine x_sld C G g1 e1 dL_law_1577 ?_
  refine x_aload_n C 0 dL_law_1578 rfl ?_
  refine x_iload C 4 dL_law_1579 rfl ?_
  refine x_iconst C (v := 2) dL_law_1581 (by decide) ?_
  refine x_iadd C dL_law_1582 ?_
  refine x_sld C G g2 e2 dL_law_1583 ?_
  refine x_aload_n C 0 dL_law_1584 rfl ?_
  refine x_iload C 4 dL_law_1585 rfl ?_
  refine x_iconst C (v := 3) dL_law_1587 (by decide) ?_
  refine x_iadd C dL_law_1588 ?_
  refine x_sld C G g3 e3 dL_law_1589 ?_
  refine x_aload_n C 0 dL_law_1590 rfl ?_
  refine x_iload C 4 dL_law_1591 rfl ?_
  refine x_iconst C (v := 4) dL_law_1593 (by decide) ?_
  refine x_iadd C dL_law_1594 ?_
  refine x_sld C G g4 e4 dL_law_1595 ?_
  refine x_aload_n C 0 dL_law_1596 rfl ?_
  refine x_iload C 4 dL_law_1597 rfl ?_
  refine x_iconst C (v := 5) dL_law_1599 (by decide) ?_
  refine x_iadd C dL_law_1600 ?_
  refine x_sld C G g5 e5 dL_law_1601 ?_
  refine x_aload_n C 0 dL_law_1602 rfl ?_
  refine x_iload C 4 dL_law_1603 rfl ?_
  refine x_bipush C (v := 6) dL_law_1605 (by decide) ?_
  refine x_iadd C dL_law_1607 ?_
  refine x_sld C G g6 e6 dL_law_1608 ?_
  refine x_aload_n C 3 dL_law_1609 rfl ?_
  refine x_ci (mc := 1) (ms := 6) (x_runSW C G.2.2.1 G.2.2.2 (As := [.ref (ad 32), .int a1, .int a2, .int a3, .int a4, .int a5, .int a6, .ref ao]) (rest := []) (c_L_search_th1 hfl h) (cwl_search_th C) rfl (Nat.le_of_ble_eq_true rfl) dL_law_1610 ⟨by show kk + 1 ≤ 1094; omega, by show jj + 6 ≤ 10825; omega⟩) ?_
  refine x_istore C (lv' := [(0, .ref b), (1, .ref (ad 32)), (2, .ref (am 0)), (3, .ref ao), (4, .int i), (5, .int 2)]) dL_law_1613 (by decide) rfl ?_
  refine x_aload_n C 2 dL_law_1615 rfl ?_
  refine x_aload_n C 0 dL_law_1616 rfl ?_
  refine x_iload C 4 dL_law_1617 rfl ?_
  refine x_iconst C (v := 1) dL_law_1619 (by decide) ?_
  refine x_iadd C dL_law_1620 ?_
  refine x_sld C G g1 e1 dL_law_1621 ?_
  refine x_aload_n C 0 dL_law_1622 rfl ?_
  refine x_iload C 4 dL_law_1623 rfl ?_
  refine x_iconst C (v := 2) dL_law_1625 (by decide) ?_
  refine x_iadd C dL_law_1626 ?_
  refine x_sld C G g2 e2 dL_law_1627 ?_
  refine x_aload_n C 0 dL_law_1628 rfl ?_
  refine x_iload C 4 dL_law_1629 rfl ?_
  refine x_iconst C (v := 3) dL_law_1631 (by decide) ?_
  refine x_iadd C dL_law_1632 ?_
  refine x_sld C G g3 e3 dL_law_1633 ?_
  refine x_aload_n C 0 dL_law_1634 rfl ?_
  refine x_iload C 4 dL_law_1635 rfl ?_
  refine x_iconst C (v := 4) dL_law_1637 (by decide) ?_
  refine x_iadd C dL_law_1638 ?_
  refine x_sld C G g4 e4 dL_law_1639 ?_
  refine x_aload_n C 0 dL_law_1640 rfl ?_
  refine x_iload C 4 dL_law_1641 rfl ?_
  refine x_iconst C (v := 5) dL_law_1643 (by decide) ?_
  refine x_iadd C dL_law_1644 ?_
  refine x_sld C G g5 e5 dL_law_1645 ?_
  refine x_aload_n C 0 dL_law_1646 rfl ?_
  refine x_iload C 4 dL_law_1647 rfl ?_
  refine x_bipush C (v := 6) dL_law_1649 (by decide) ?_
  refine x_iadd C dL_law_1651 ?_
  refine x_sld C G g6 e6 dL_law_1652 ?_
  refine x_world (w' := (wM cI cZ am M (wE cI cZ ad S' (eo ad (ad 0) (ad 7) (oc ao cJ fo []))))) (wl_EM (D := D)).1 ((wl_EM (D := D)).2 _) ?_
  refine x_ci0 (x_runV C (As := [.int a1, .int a2, .int a3, .int a4, .int a5, .int a6]) (rest := []) (c_X6_search hM) (cwl6_search C) 0 rfl rfl rfl (Nat.le_of_ble_eq_true rfl) dL_law_1653 ⟨by show kk + 1 + 0 ≤ 1094; omega, by show jj + 6 + 0 ≤ 10825; omega⟩) ?_
  refine x_istore C (lv' := [(0, .ref b), (1, .ref (ad 32)), (2, .ref (am 0)), (3, .ref ao), (4, .int i), (5, .int 2), (6, .int vb)]) dL_law_1656 (by decide) rfl ?_
  refine x_aload_n C 2 dL_law_1658 rfl ?_
  refine x_ci0 (x_runV C (As := []) (rest := []) (c_X6_thrown (S := M') (r := M' 0 25) rfl) (cwl6_thrown C) 0 rfl rfl rfl (Nat.le_of_ble_eq_true rfl) dL_law_1659 ⟨by show kk + 1 + 0 ≤ 1094; omega, by show jj + 6 + 0 ≤ 10825; omega⟩) ?_
  refine x_iload C 5 dL_law_1662 rfl ?_
  refine x_icmp_eq C (t := 1669) dL_law_1664 (by decide) (fun _ => ?_) (fun c1 => absurd hth c1)
  refine x_iload C 5 dL_law_1669 rfl ?_
  refine x_if_ne C (t := 1686) dL_law_1671 (by decide) (fun _ => ?_) (fun c1 => absurd c1 (by decide))
  refine x_goto C (t := 1689) dL_law_1686 (by decide) ?_
  refine x_world (w' := (wE cI cZ ad S' (eo ad (ad 0) (ad 7) (oc ao cJ fo (wM cI cZ am M' []))))) (wl_ME (D := D)).1 ((wl_ME (D := D)).2 _) ?_
  refine x_locals (lv' := [(0, .ref b), (1, .ref (ad 32)), (2, .ref (am 0)), (3, .ref ao), (4, .int i)]) [0, 1, 2, 3, 4] rfl ?_
  exact K _ _ _ (by omega) (by omega)
