set_option maxHeartbeats 1000000 in
set_option maxRecDepth 100000 in
theorem lc_paidEach {p : Program} {l : Launch} {e : Env} {s : State} {m : MethodId} {below : List Frame} {meth : Method} {cd : Code} {D : va_G} {Y : Nat → ClassId} {b L : Nat} {xs : Nat → Int32} {x ou c cells slots : Nat} {ad : Nat → Nat} {M : MS} {σ : sg_W} {H : Heap} {locs : List Loc} {ls : Array Slot} {iv : Int32} {Q : State → Prop} (hE : lwE p l s m cd D Y b L xs) (hW : LW Y x ou ad M c σ) (hc : c < 512) (hP : sg_P D σ H) (hD : sg_D (fun q : Nat => s.heap.size ≤ q) σ) (hS : va_S (fun q : Nat => s.heap.size ≤ q) s.heap H locs) (hl : lv_has ls 8 (lw5 b x ou ad iv)) (hce : cells + 6 ≤ 601024) (hsl : slots + 50 ≤ 7293034) (h1 : vp_in (iv + 1) L) (h2 : vp_in (iv + 2) L) (kK : lwK p l e s m below meth cd D Y b x ou ad c iv cells slots Q) : W p l e room_1 s m #[Value.ref b] below meth cd H locs cells slots Q (F0 m 857 ls []) := by
  obtain ⟨hx, hb, hml, hown, hts, hX, hbl, hK, hN, hC, hXs, hfl⟩ := hE
  obtain ⟨aM, N, aO, aL, aC, P, t, f, hQ, hR, h, ho, hM⟩ := hW
  have hA : ∀ q : Nat, s.heap.size ≤ q → (fun q : Nat => s.heap.size ≤ q) q := fun _ z => z
  have hbA : ¬ (fun q : Nat => s.heap.size ≤ q) b := Nat.not_le.mpr hbl
  have hl : lv_has ls 8 [(0, .ref b), (1, .ref x), (2, .ref (ad 0)), (3, .ref ou), (4, .int iv)] := hl
  obtain ⟨a1, ea1⟩ : ∃ z, z = xs (iv + 1).toNatClampNeg := ⟨_, rfl⟩
  obtain ⟨a2, ea2⟩ : ∃ z, z = xs (iv + 2).toNatClampNeg := ⟨_, rfl⟩
  refine lv_aload_n hx hb dL_law_857 rfl (lv_at hl 1 rfl) ?_
  refine lv_aload_n hx hb dL_law_858 rfl (lv_at hl 0 rfl) ?_
  refine lv_iload hx hb dL_law_859 (lv_at hl 4 rfl) ?_
  refine lv_iconst (v := 1) hx hb dL_law_861 (by decide) ?_
  refine lv_iadd hx hb dL_law_862 ?_
  refine va_sld hx hb hX hbl hbA hS h1 dL_law_863 ?_
  refine lv_topi (fun v863 ev863 => ?_)
  obtain rfl : a1 = v863 := ea1.trans ev863.symm
  refine lv_aload_n hx hb dL_law_864 rfl (lv_at hl 0 rfl) ?_
  refine lv_iload hx hb dL_law_865 (lv_at hl 4 rfl) ?_
  refine lv_iconst (v := 2) hx hb dL_law_867 (by decide) ?_
  refine lv_iadd hx hb dL_law_868 ?_
  refine va_sld hx hb hX hbl hbA hS h2 dL_law_869 ?_
  refine lv_topi (fun v869 ev869 => ?_)
  obtain rfl : a2 = v869 := ea2.trans ev869.symm
  refine lv_aload_n hx hb dL_law_870 rfl (lv_at hl 3 rfl) ?_
  refine sg_xcalli hD hS hA (vx_runSX (As := [.ref x, .int a1, .int a2, .ref ou]) (rest := []) ⟨hx, hb, hml, hown, hts⟩ (c_L_paidEach l hfl D Y _ _ x ou aM N t c aO aL aC P M f a1 a2 hQ ho h hc hR) (vx_cwSW 4 hts gL_law_L_paidEach rfl rfl rfl (by decide +kernel) ⟨(Nat.le_of_ble_eq_true rfl), (Nat.le_of_ble_eq_true rfl)⟩) (lh_preS hK hP hD hN hC hXs hS hA) rfl rfl hl.1 rfl (lv_room (Nat.le_of_ble_eq_true rfl)) dL_law_871 ⟨by show cells + 3 ≤ 601024; omega, by show slots + 18 ≤ 7293034; omega⟩) (fun E ce q9 H locs hpx hP hD hS hce hcv hcl => False.elim hpx) (fun r2 σ2 H locs hw hP hD hS => ?_)
  have hM2 : MW Y ad M σ2 := hw.mw hM
  obtain ⟨e2, g0, gn⟩ := hw
  refine lv_istore (lv' := [(5, .int r2), (0, .ref b), (1, .ref x), (2, .ref (ad 0)), (3, .ref ou), (4, .int iv)]) hx hb dL_law_874 hl (by decide) rfl (fun ls hl => ?_)
  refine lv_aload_n hx hb dL_law_876 rfl (lv_at hl 3 rfl) ?_
  refine lv_aload_n hx hb dL_law_877 rfl (lv_at hl 1 rfl) ?_
  refine lv_iload hx hb dL_law_878 (lv_at hl 5 rfl) ?_
  refine lv_iconst (v := 1) hx hb dL_law_880 (by decide) ?_
  refine lv_iadd hx hb dL_law_881 ?_
  refine va_sld hx hb hX hbl hbA hS h1 dL_law_882 ?_
  refine lv_topi (fun v882 ev882 => ?_)
  obtain rfl : a1 = v882 := ea1.trans ev882.symm
  refine lv_aload_n hx hb dL_law_883 rfl (lv_at hl 1 rfl) ?_
  refine lv_iload hx hb dL_law_884 (lv_at hl 5 rfl) ?_
  refine lv_iconst (v := 2) hx hb dL_law_886 (by decide) ?_
  refine lv_iadd hx hb dL_law_887 ?_
  refine va_sld hx hb hX hbl hbA hS h2 dL_law_888 ?_
  refine lv_topi (fun v888 ev888 => ?_)
  obtain rfl : a2 = v888 := ea2.trans ev888.symm
  refine sg_calli hD hS hA (va_runV (As := [.int a1, .int a2]) (rest := []) ⟨hx, hb, hml, hown, hts⟩ (c_X3_paidEach l D Y _ _ ad M a1 a2 h.six hM2) (cwV 2 hts gL_law_X3_paidEach rfl rfl rfl (by decide +kernel) ⟨(Nat.le_of_ble_eq_true rfl), (Nat.le_of_ble_eq_true rfl)⟩) (sg_preV (q := (RX3, TX3, 20)) (hM2.1 0 rfl) rfl hK hP hD hN hXs hS hA) rfl rfl hl.1 rfl (lv_room (Nat.le_of_ble_eq_true rfl)) dL_law_889 ⟨by show cells + 3 + 0 ≤ 601024; omega, by show slots + 18 + 0 ≤ 7293034; omega⟩) (fun r3 σ3 H locs hw hP hD hS => ?_)
  obtain ⟨hA3, hM3⟩ := hw
  refine lv_istore (lv' := [(6, .int r3), (5, .int r2), (0, .ref b), (1, .ref x), (2, .ref (ad 0)), (3, .ref ou), (4, .int iv)]) hx hb dL_law_892 hl (by decide) rfl (fun ls hl => ?_)
  refine lv_aload_n hx hb dL_law_894 rfl (lv_at hl 4 rfl) ?_
  refine sg_calli hD hS hA (va_runV (As := []) (rest := []) ⟨hx, hb, hml, hown, hts⟩ (c_X3_thrown l D Y _ _ ad _ hM3.self) (cwV 0 hts gL_law_X3_thrown rfl rfl rfl (by decide +kernel) ⟨(Nat.le_of_ble_eq_true rfl), (Nat.le_of_ble_eq_true rfl)⟩) (sg_preV (q := (RX3, TX3, 20)) (hM3.1 0 rfl) rfl hK hP hD hN hXs hS hA) rfl rfl hl.1 rfl (lv_room (Nat.le_of_ble_eq_true rfl)) dL_law_895 ⟨by show cells + 3 + 0 + 0 ≤ 601024; omega, by show slots + 18 + 0 + 0 ≤ 7293034; omega⟩) (fun r4 σ4 H locs hw hP hD hS => ?_)
  obtain ⟨e4, rfl⟩ := hw
  have e4 : r4 = tMonth M a1 a2 := e4
  refine lv_iload hx hb dL_law_898 (lv_at hl 1 rfl) ?_
  refine lv_icmp_eq (tgt := 905) hx hb dL_law_900 (by decide) (fun c9 => ?_) (fun c9 => absurd (e4.trans e2.symm) c9)
  refine lv_iload hx hb dL_law_905 (lv_at hl 1 rfl) ?_
  refine lv_if_ne (tgt := 922) hx hb dL_law_907 (by decide) (fun c8 => ?_) (fun c8 => ?_)
  · have hT : ¬ tMonth M a1 a2 = 0 := fun q => (by simpa using c8 : ¬ r2 = 0) (e2.trans q)
    have e5 := gn hT
    refine lv_goto (tgt := 1335) hx hb dL_law_922 (by decide) ?_
    refine W.widen (k := cells + 6) (n := slots + 50) (by omega) (by omega) ?_
    exact kK _ _ _ _ _ ⟨aM, N, aO, aL, aC, P, t, f, hQ.mf (fun n hn => (hM3.2 n hn).trans (congrFun e5.symm n)), hR.u19, (h.mon (by omega)).u19, ((hM3.2 120 (by omega)).trans (congrFun e5.symm 120)).trans ho, hM3.self⟩ hP hD hS (lv_sub hl [2, 3, 4, 5, 6] rfl)
  · have hT : tMonth M a1 a2 = 0 := e2.symm.trans (by simpa using c8)
    rw [hT] at hM3
    obtain ⟨bM, bN2, bO, bL, bC, bP, bt, bf, hQ2, hR2, hI2, ho2, hv2, -⟩ := g0 hT
    have ho3 := (hM3.2 120 (by omega)).trans ho2
    refine lv_aload_n hx hb dL_law_910 rfl (lv_at hl 5 rfl) ?_
    refine lv_iconst (v := 0) hx hb dL_law_911 (by decide) ?_
    refine va_lald hx hb hK (sg_one hP ho3) 0 1 rfl rfl (vp_in_nI (n := 0) (by decide) (by decide)) dL_law_912 ?_
    refine lv_iload hx hb dL_law_913 (lv_at hl 0 rfl) ?_
    refine lv_i2l hx hb dL_law_915 rfl ?_
    refine W.lcmp hx hb dL_law_916 ?_
    refine lv_if_eq (tgt := 922) hx hb dL_law_917 (by decide) (fun c7 => ?_) (fun c7 => absurd ((lg_cmp_eq _ _).mpr (hv2.trans (by rw [hA3 hT]))) c7)
    refine lv_goto (tgt := 1335) hx hb dL_law_922 (by decide) ?_
    refine W.widen (k := cells + 6) (n := slots + 50) (by omega) (by omega) ?_
    exact kK _ _ _ _ _ ⟨bM, bN2, bO, bL, bC, bP, bt, bf, hQ2.mf hM3.2, hR2, hI2, ho3, hM3.self⟩ hP hD hS (lv_sub hl [2, 3, 4, 5, 6] rfl)

set_option maxHeartbeats 1000000 in
set_option maxRecDepth 100000 in
theorem lc_counted {p : Program} {l : Launch} {e : Env} {s : State} {m : MethodId} {below : List Frame} {meth : Method} {cd : Code} {D : va_G} {Y : Nat → ClassId} {b L : Nat} {xs : Nat → Int32} {x ou c cells slots : Nat} {ad : Nat → Nat} {M : MS} {σ : sg_W} {H : Heap} {locs : List Loc} {ls : Array Slot} {iv : Int32} {Q : State → Prop} (hE : lwE p l s m cd D Y b L xs) (hW : LW Y x ou ad M c σ) (hc : c < 512) (hP : sg_P D σ H) (hD : sg_D (fun q : Nat => s.heap.size ≤ q) σ) (hS : va_S (fun q : Nat => s.heap.size ≤ q) s.heap H locs) (hl : lv_has ls 8 (lw5 b x ou ad iv)) (hce : cells + 6 ≤ 601024) (hsl : slots + 50 ≤ 7293034) (h1 : vp_in (iv + 1) L) (h2 : vp_in (iv + 2) L) (kK : lwK p l e s m below meth cd D Y b x ou ad c iv cells slots Q) : W p l e room_1 s m #[Value.ref b] below meth cd H locs cells slots Q (F0 m 925 ls []) := by
  obtain ⟨hx, hb, hml, hown, hts, hX, hbl, hK, hN, hC, hXs, hfl⟩ := hE
  obtain ⟨aM, N, aO, aL, aC, P, t, f, hQ, hR, h, ho, hM⟩ := hW
  have hA : ∀ q : Nat, s.heap.size ≤ q → (fun q : Nat => s.heap.size ≤ q) q := fun _ z => z
  have hbA : ¬ (fun q : Nat => s.heap.size ≤ q) b := Nat.not_le.mpr hbl
  have hl : lv_has ls 8 [(0, .ref b), (1, .ref x), (2, .ref (ad 0)), (3, .ref ou), (4, .int iv)] := hl
  obtain ⟨a1, ea1⟩ : ∃ z, z = xs (iv + 1).toNatClampNeg := ⟨_, rfl⟩
  obtain ⟨a2, ea2⟩ : ∃ z, z = xs (iv + 2).toNatClampNeg := ⟨_, rfl⟩
  refine lv_aload_n hx hb dL_law_925 rfl (lv_at hl 1 rfl) ?_
  refine lv_aload_n hx hb dL_law_926 rfl (lv_at hl 0 rfl) ?_
  refine lv_iload hx hb dL_law_927 (lv_at hl 4 rfl) ?_
  refine lv_iconst (v := 1) hx hb dL_law_929 (by decide) ?_
  refine lv_iadd hx hb dL_law_930 ?_
  refine va_sld hx hb hX hbl hbA hS h1 dL_law_931 ?_
  refine lv_topi (fun v931 ev931 => ?_)
  obtain rfl : a1 = v931 := ea1.trans ev931.symm
  refine lv_aload_n hx hb dL_law_932 rfl (lv_at hl 0 rfl) ?_
  refine lv_iload hx hb dL_law_933 (lv_at hl 4 rfl) ?_
  refine lv_iconst (v := 2) hx hb dL_law_935 (by decide) ?_
  refine lv_iadd hx hb dL_law_936 ?_
  refine va_sld hx hb hX hbl hbA hS h2 dL_law_937 ?_
  refine lv_topi (fun v937 ev937 => ?_)
  obtain rfl : a2 = v937 := ea2.trans ev937.symm
  refine lv_aload_n hx hb dL_law_938 rfl (lv_at hl 3 rfl) ?_
  refine sg_xcalli hD hS hA (vx_runSX (As := [.ref x, .int a1, .int a2, .ref ou]) (rest := []) ⟨hx, hb, hml, hown, hts⟩ (c_L_counted l hfl D Y _ _ x ou aM N t c aO aL aC P M f a1 a2 hQ ho h hc hR) (vx_cwSW 4 hts gL_law_L_counted rfl rfl rfl (by decide +kernel) ⟨(Nat.le_of_ble_eq_true rfl), (Nat.le_of_ble_eq_true rfl)⟩) (lh_preS hK hP hD hN hC hXs hS hA) rfl rfl hl.1 rfl (lv_room (Nat.le_of_ble_eq_true rfl)) dL_law_939 ⟨by show cells + 3 ≤ 601024; omega, by show slots + 18 ≤ 7293034; omega⟩) (fun E ce q9 H locs hpx hP hD hS hce hcv hcl => False.elim hpx) (fun r2 σ2 H locs hw hP hD hS => ?_)
  have hM2 : MW Y ad M σ2 := hw.mw hM
  obtain ⟨e2, g0, gn⟩ := hw
  refine lv_istore (lv' := [(5, .int r2), (0, .ref b), (1, .ref x), (2, .ref (ad 0)), (3, .ref ou), (4, .int iv)]) hx hb dL_law_942 hl (by decide) rfl (fun ls hl => ?_)
  refine lv_aload_n hx hb dL_law_944 rfl (lv_at hl 3 rfl) ?_
  refine lv_aload_n hx hb dL_law_945 rfl (lv_at hl 1 rfl) ?_
  refine lv_iload hx hb dL_law_946 (lv_at hl 5 rfl) ?_
  refine lv_iconst (v := 1) hx hb dL_law_948 (by decide) ?_
  refine lv_iadd hx hb dL_law_949 ?_
  refine va_sld hx hb hX hbl hbA hS h1 dL_law_950 ?_
  refine lv_topi (fun v950 ev950 => ?_)
  obtain rfl : a1 = v950 := ea1.trans ev950.symm
  refine lv_aload_n hx hb dL_law_951 rfl (lv_at hl 1 rfl) ?_
  refine lv_iload hx hb dL_law_952 (lv_at hl 5 rfl) ?_
  refine lv_iconst (v := 2) hx hb dL_law_954 (by decide) ?_
  refine lv_iadd hx hb dL_law_955 ?_
  refine va_sld hx hb hX hbl hbA hS h2 dL_law_956 ?_
  refine lv_topi (fun v956 ev956 => ?_)
  obtain rfl : a2 = v956 := ea2.trans ev956.symm
  refine sg_calll hD hS hA (va_runV (As := [.int a1, .int a2]) (rest := []) ⟨hx, hb, hml, hown, hts⟩ (c_X3_counted l D Y _ _ ad M a1 a2 h.six h.ho hM2) (cwV 2 hts gL_law_X3_counted rfl rfl rfl (by decide +kernel) ⟨(Nat.le_of_ble_eq_true rfl), (Nat.le_of_ble_eq_true rfl)⟩) (sg_preV (q := (RX3, TX3, 20)) (hM2.1 0 rfl) rfl hK hP hD hN hXs hS hA) rfl rfl hl.1 rfl (lv_room (Nat.le_of_ble_eq_true rfl)) dL_law_957 ⟨by show cells + 3 + 0 ≤ 601024; omega, by show slots + 18 + 0 ≤ 7293034; omega⟩) (fun r3 σ3 H locs hw hP hD hS => ?_)
  obtain ⟨hA3, hM3⟩ := hw
  refine lv_lstore (lv' := [(6, .long r3), (5, .int r2), (0, .ref b), (1, .ref x), (2, .ref (ad 0)), (3, .ref ou), (4, .int iv)]) hx hb dL_law_960 hl (by decide) rfl (fun ls hl => ?_)
  refine lv_aload_n hx hb dL_law_962 rfl (lv_at hl 4 rfl) ?_
  refine sg_calli hD hS hA (va_runV (As := []) (rest := []) ⟨hx, hb, hml, hown, hts⟩ (c_X3_thrown l D Y _ _ ad _ hM3.self) (cwV 0 hts gL_law_X3_thrown rfl rfl rfl (by decide +kernel) ⟨(Nat.le_of_ble_eq_true rfl), (Nat.le_of_ble_eq_true rfl)⟩) (sg_preV (q := (RX3, TX3, 20)) (hM3.1 0 rfl) rfl hK hP hD hN hXs hS hA) rfl rfl hl.1 rfl (lv_room (Nat.le_of_ble_eq_true rfl)) dL_law_963 ⟨by show cells + 3 + 0 + 0 ≤ 601024; omega, by show slots + 18 + 0 + 0 ≤ 7293034; omega⟩) (fun r4 σ4 H locs hw hP hD hS => ?_)
  obtain ⟨e4, rfl⟩ := hw
  have e4 : r4 = tYear M a1 a2 := e4
  refine lv_iload hx hb dL_law_966 (lv_at hl 1 rfl) ?_
  refine lv_icmp_eq (tgt := 973) hx hb dL_law_968 (by decide) (fun c9 => ?_) (fun c9 => absurd (e4.trans e2.symm) c9)
  refine lv_iload hx hb dL_law_973 (lv_at hl 1 rfl) ?_
  refine lv_if_ne (tgt := 989) hx hb dL_law_975 (by decide) (fun c8 => ?_) (fun c8 => ?_)
  · have hT : ¬ tYear M a1 a2 = 0 := fun q => (by simpa using c8 : ¬ r2 = 0) (e2.trans q)
    have e5 := gn hT
    refine lv_goto (tgt := 1335) hx hb dL_law_989 (by decide) ?_
    refine W.widen (k := cells + 6) (n := slots + 50) (by omega) (by omega) ?_
    exact kK _ _ _ _ _ ⟨aM, N, aO, aL, aC, P, t, f, hQ.mf (fun n hn => (hM3.2 n hn).trans (congrFun e5.symm n)), hR.u19, (h.mon (by omega)).u19, ((hM3.2 120 (by omega)).trans (congrFun e5.symm 120)).trans ho, hM3.self⟩ hP hD hS (lv_sub hl [2, 3, 4, 5, 6] rfl)
  · have hT : tYear M a1 a2 = 0 := e2.symm.trans (by simpa using c8)
    rw [hT] at hM3
    obtain ⟨bM, bN2, bO, bL, bC, bP, bt, bf, hQ2, hR2, hI2, ho2, hv2, -⟩ := g0 hT
    have ho3 := (hM3.2 120 (by omega)).trans ho2
    refine lv_aload_n hx hb dL_law_978 rfl (lv_at hl 5 rfl) ?_
    refine lv_iconst (v := 0) hx hb dL_law_979 (by decide) ?_
    refine va_lald hx hb hK (sg_one hP ho3) 0 1 rfl rfl (vp_in_nI (n := 0) (by decide) (by decide)) dL_law_980 ?_
    refine lv_lload hx hb dL_law_981 (lv_at hl 0 rfl) ?_
    refine W.lcmp hx hb dL_law_983 ?_
    refine lv_if_eq (tgt := 989) hx hb dL_law_984 (by decide) (fun c7 => ?_) (fun c7 => absurd ((lg_cmp_eq _ _).mpr (hv2.trans (by rw [hA3 hT]))) c7)
    refine lv_goto (tgt := 1335) hx hb dL_law_989 (by decide) ?_
    refine W.widen (k := cells + 6) (n := slots + 50) (by omega) (by omega) ?_
    exact kK _ _ _ _ _ ⟨bM, bN2, bO, bL, bC, bP, bt, bf, hQ2.mf hM3.2, hR2, hI2, ho3, hM3.self⟩ hP hD hS (lv_sub hl [2, 3, 4, 5, 6] rfl)

set_option maxHeartbeats 1000000 in
set_option maxRecDepth 100000 in
theorem lc_traced {p : Program} {l : Launch} {e : Env} {s : State} {m : MethodId} {below : List Frame} {meth : Method} {cd : Code} {D : va_G} {Y : Nat → ClassId} {b L : Nat} {xs : Nat → Int32} {x ou c cells slots : Nat} {ad : Nat → Nat} {M : MS} {σ : sg_W} {H : Heap} {locs : List Loc} {ls : Array Slot} {iv : Int32} {Q : State → Prop} (hE : lwE p l s m cd D Y b L xs) (hW : LW Y x ou ad M c σ) (hc : c < 512) (hP : sg_P D σ H) (hD : sg_D (fun q : Nat => s.heap.size ≤ q) σ) (hS : va_S (fun q : Nat => s.heap.size ≤ q) s.heap H locs) (hl : lv_has ls 8 (lw5 b x ou ad iv)) (hce : cells + 6 ≤ 601024) (hsl : slots + 50 ≤ 7293034) (h1 : vp_in (iv + 1) L) (h2 : vp_in (iv + 2) L) (kK : lwK p l e s m below meth cd D Y b x ou ad c iv cells slots Q) : W p l e room_1 s m #[Value.ref b] below meth cd H locs cells slots Q (F0 m 992 ls []) := by
  obtain ⟨hx, hb, hml, hown, hts, hX, hbl, hK, hN, hC, hXs, hfl⟩ := hE
  obtain ⟨aM, N, aO, aL, aC, P, t, f, hQ, hR, h, ho, hM⟩ := hW
  have hA : ∀ q : Nat, s.heap.size ≤ q → (fun q : Nat => s.heap.size ≤ q) q := fun _ z => z
  have hbA : ¬ (fun q : Nat => s.heap.size ≤ q) b := Nat.not_le.mpr hbl
  have hl : lv_has ls 8 [(0, .ref b), (1, .ref x), (2, .ref (ad 0)), (3, .ref ou), (4, .int iv)] := hl
  obtain ⟨a1, ea1⟩ : ∃ z, z = xs (iv + 1).toNatClampNeg := ⟨_, rfl⟩
  refine lv_aload_n hx hb dL_law_992 rfl (lv_at hl 1 rfl) ?_
  refine lv_aload_n hx hb dL_law_993 rfl (lv_at hl 0 rfl) ?_
  refine lv_iload hx hb dL_law_994 (lv_at hl 4 rfl) ?_
  refine lv_iconst (v := 1) hx hb dL_law_996 (by decide) ?_
  refine lv_iadd hx hb dL_law_997 ?_
  refine va_sld hx hb hX hbl hbA hS h1 dL_law_998 ?_
  refine lv_topi (fun v998 ev998 => ?_)
  obtain rfl : a1 = v998 := ea1.trans ev998.symm
  refine lv_aload_n hx hb dL_law_999 rfl (lv_at hl 3 rfl) ?_
  refine sg_xcalli hD hS hA (vx_runSX (As := [.ref x, .int a1, .ref ou]) (rest := []) ⟨hx, hb, hml, hown, hts⟩ (c_L_traced l hfl D Y _ _ x ou aM N t c aO aL aC P M f a1 hQ ho h hc hR) (vx_cwSW 3 hts gL_law_L_traced rfl rfl rfl (by decide +kernel) ⟨(Nat.le_of_ble_eq_true rfl), (Nat.le_of_ble_eq_true rfl)⟩) (lh_preS hK hP hD hN hC hXs hS hA) rfl rfl hl.1 rfl (lv_room (Nat.le_of_ble_eq_true rfl)) dL_law_1000 ⟨by show cells + 1 ≤ 601024; omega, by show slots + 6 ≤ 7293034; omega⟩) (fun E ce q9 H locs hpx hP hD hS hce hcv hcl => False.elim hpx) (fun r2 σ2 H locs hw hP hD hS => ?_)
  have hM2 : MW Y ad M σ2 := hw.mw hM
  obtain ⟨e2, g0, gn⟩ := hw
  refine lv_istore (lv' := [(5, .int r2), (0, .ref b), (1, .ref x), (2, .ref (ad 0)), (3, .ref ou), (4, .int iv)]) hx hb dL_law_1003 hl (by decide) rfl (fun ls hl => ?_)
  refine lv_aload_n hx hb dL_law_1005 rfl (lv_at hl 3 rfl) ?_
  refine lv_aload_n hx hb dL_law_1006 rfl (lv_at hl 1 rfl) ?_
  refine lv_iload hx hb dL_law_1007 (lv_at hl 5 rfl) ?_
  refine lv_iconst (v := 1) hx hb dL_law_1009 (by decide) ?_
  refine lv_iadd hx hb dL_law_1010 ?_
  refine va_sld hx hb hX hbl hbA hS h1 dL_law_1011 ?_
  refine lv_topi (fun v1011 ev1011 => ?_)
  obtain rfl : a1 = v1011 := ea1.trans ev1011.symm
  refine sg_calll hD hS hA (va_runV (As := [.int a1]) (rest := []) ⟨hx, hb, hml, hown, hts⟩ (c_X3_traced l D Y _ _ ad M a1 h.six hM2) (cwV 1 hts gL_law_X3_traced rfl rfl rfl (by decide +kernel) ⟨(Nat.le_of_ble_eq_true rfl), (Nat.le_of_ble_eq_true rfl)⟩) (sg_preV (q := (RX3, TX3, 20)) (hM2.1 0 rfl) rfl hK hP hD hN hXs hS hA) rfl rfl hl.1 rfl (lv_room (Nat.le_of_ble_eq_true rfl)) dL_law_1012 ⟨by show cells + 1 + 0 ≤ 601024; omega, by show slots + 6 + 0 ≤ 7293034; omega⟩) (fun r3 σ3 H locs hw hP hD hS => ?_)
  obtain ⟨hA3, hM3⟩ := hw
  refine lv_lstore (lv' := [(6, .long r3), (5, .int r2), (0, .ref b), (1, .ref x), (2, .ref (ad 0)), (3, .ref ou), (4, .int iv)]) hx hb dL_law_1015 hl (by decide) rfl (fun ls hl => ?_)
  refine lv_aload_n hx hb dL_law_1017 rfl (lv_at hl 4 rfl) ?_
  refine sg_calli hD hS hA (va_runV (As := []) (rest := []) ⟨hx, hb, hml, hown, hts⟩ (c_X3_thrown l D Y _ _ ad _ hM3.self) (cwV 0 hts gL_law_X3_thrown rfl rfl rfl (by decide +kernel) ⟨(Nat.le_of_ble_eq_true rfl), (Nat.le_of_ble_eq_true rfl)⟩) (sg_preV (q := (RX3, TX3, 20)) (hM3.1 0 rfl) rfl hK hP hD hN hXs hS hA) rfl rfl hl.1 rfl (lv_room (Nat.le_of_ble_eq_true rfl)) dL_law_1018 ⟨by show cells + 1 + 0 + 0 ≤ 601024; omega, by show slots + 6 + 0 + 0 ≤ 7293034; omega⟩) (fun r4 σ4 H locs hw hP hD hS => ?_)
  obtain ⟨e4, rfl⟩ := hw
  have e4 : r4 = tMem M a1 := e4
  refine lv_iload hx hb dL_law_1021 (lv_at hl 1 rfl) ?_
  refine lv_icmp_eq (tgt := 1028) hx hb dL_law_1023 (by decide) (fun c9 => ?_) (fun c9 => absurd (e4.trans e2.symm) c9)
  refine lv_iload hx hb dL_law_1028 (lv_at hl 1 rfl) ?_
  refine lv_if_ne (tgt := 1044) hx hb dL_law_1030 (by decide) (fun c8 => ?_) (fun c8 => ?_)
  · have hT : ¬ tMem M a1 = 0 := fun q => (by simpa using c8 : ¬ r2 = 0) (e2.trans q)
    have e5 := gn hT
    refine lv_goto (tgt := 1335) hx hb dL_law_1044 (by decide) ?_
    refine W.widen (k := cells + 6) (n := slots + 50) (by omega) (by omega) ?_
    exact kK _ _ _ _ _ ⟨aM, N, aO, aL, aC, P, t, f, hQ.mf (fun n hn => (hM3.2 n hn).trans (congrFun e5.symm n)), hR.u19, (h.mon (by omega)).u19, ((hM3.2 120 (by omega)).trans (congrFun e5.symm 120)).trans ho, hM3.self⟩ hP hD hS (lv_sub hl [2, 3, 4, 5, 6] rfl)
  · have hT : tMem M a1 = 0 := e2.symm.trans (by simpa using c8)
    rw [hT] at hM3
    obtain ⟨bM, bN2, bO, bL, bC, bP, bt, bf, hQ2, hR2, hI2, ho2, hv2, -⟩ := g0 hT
    have ho3 := (hM3.2 120 (by omega)).trans ho2
    refine lv_aload_n hx hb dL_law_1033 rfl (lv_at hl 5 rfl) ?_
    refine lv_iconst (v := 0) hx hb dL_law_1034 (by decide) ?_
    refine va_lald hx hb hK (sg_one hP ho3) 0 1 rfl rfl (vp_in_nI (n := 0) (by decide) (by decide)) dL_law_1035 ?_
    refine lv_lload hx hb dL_law_1036 (lv_at hl 0 rfl) ?_
    refine W.lcmp hx hb dL_law_1038 ?_
    refine lv_if_eq (tgt := 1044) hx hb dL_law_1039 (by decide) (fun c7 => ?_) (fun c7 => absurd ((lg_cmp_eq _ _).mpr (hv2.trans (by rw [hA3 hT]))) c7)
    refine lv_goto (tgt := 1335) hx hb dL_law_1044 (by decide) ?_
    refine W.widen (k := cells + 6) (n := slots + 50) (by omega) (by omega) ?_
    exact kK _ _ _ _ _ ⟨bM, bN2, bO, bL, bC, bP, bt, bf, hQ2.mf hM3.2, hR2, hI2, ho3, hM3.self⟩ hP hD hS (lv_sub hl [2, 3, 4, 5, 6] rfl)

set_option maxHeartbeats 1000000 in
set_option maxRecDepth 100000 in
theorem lc_kept {p : Program} {l : Launch} {e : Env} {s : State} {m : MethodId} {below : List Frame} {meth : Method} {cd : Code} {D : va_G} {Y : Nat → ClassId} {b L : Nat} {xs : Nat → Int32} {x ou c cells slots : Nat} {ad : Nat → Nat} {M : MS} {σ : sg_W} {H : Heap} {locs : List Loc} {ls : Array Slot} {iv : Int32} {Q : State → Prop} (hE : lwE p l s m cd D Y b L xs) (hW : LW Y x ou ad M c σ) (hc : c < 512) (hP : sg_P D σ H) (hD : sg_D (fun q : Nat => s.heap.size ≤ q) σ) (hS : va_S (fun q : Nat => s.heap.size ≤ q) s.heap H locs) (hl : lv_has ls 8 (lw5 b x ou ad iv)) (hce : cells + 6 ≤ 601024) (hsl : slots + 50 ≤ 7293034) (h1 : vp_in (iv + 1) L) (h2 : vp_in (iv + 2) L) (kK : lwK p l e s m below meth cd D Y b x ou ad c iv cells slots Q) : W p l e room_1 s m #[Value.ref b] below meth cd H locs cells slots Q (F0 m 1047 ls []) := by
  obtain ⟨hx, hb, hml, hown, hts, hX, hbl, hK, hN, hC, hXs, hfl⟩ := hE
  obtain ⟨aM, N, aO, aL, aC, P, t, f, hQ, hR, h, ho, hM⟩ := hW
  have hA : ∀ q : Nat, s.heap.size ≤ q → (fun q : Nat => s.heap.size ≤ q) q := fun _ z => z
  have hbA : ¬ (fun q : Nat => s.heap.size ≤ q) b := Nat.not_le.mpr hbl
  have hl : lv_has ls 8 [(0, .ref b), (1, .ref x), (2, .ref (ad 0)), (3, .ref ou), (4, .int iv)] := hl
  obtain ⟨a1, ea1⟩ : ∃ z, z = xs (iv + 1).toNatClampNeg := ⟨_, rfl⟩
  refine lv_aload_n hx hb dL_law_1047 rfl (lv_at hl 1 rfl) ?_
  refine lv_aload_n hx hb dL_law_1048 rfl (lv_at hl 0 rfl) ?_
  refine lv_iload hx hb dL_law_1049 (lv_at hl 4 rfl) ?_
  refine lv_iconst (v := 1) hx hb dL_law_1051 (by decide) ?_
  refine lv_iadd hx hb dL_law_1052 ?_
  refine va_sld hx hb hX hbl hbA hS h1 dL_law_1053 ?_
  refine lv_topi (fun v1053 ev1053 => ?_)
  obtain rfl : a1 = v1053 := ea1.trans ev1053.symm
  refine lv_aload_n hx hb dL_law_1054 rfl (lv_at hl 3 rfl) ?_
  refine sg_xcalli hD hS hA (vx_runSX (As := [.ref x, .int a1, .ref ou]) (rest := []) ⟨hx, hb, hml, hown, hts⟩ (c_L_kept l hfl D Y _ _ x ou aM N t c aO aL aC P M f a1 hQ ho h hc hR) (vx_cwSW 3 hts gL_law_L_kept rfl rfl rfl (by decide +kernel) ⟨(Nat.le_of_ble_eq_true rfl), (Nat.le_of_ble_eq_true rfl)⟩) (lh_preS hK hP hD hN hC hXs hS hA) rfl rfl hl.1 rfl (lv_room (Nat.le_of_ble_eq_true rfl)) dL_law_1055 ⟨by show cells + 1 ≤ 601024; omega, by show slots + 6 ≤ 7293034; omega⟩) (fun E ce q9 H locs hpx hP hD hS hce hcv hcl => False.elim hpx) (fun r2 σ2 H locs hw hP hD hS => ?_)
  have hM2 : MW Y ad M σ2 := hw.mw hM
  obtain ⟨e2, g0, gn⟩ := hw
  refine lv_istore (lv' := [(5, .int r2), (0, .ref b), (1, .ref x), (2, .ref (ad 0)), (3, .ref ou), (4, .int iv)]) hx hb dL_law_1058 hl (by decide) rfl (fun ls hl => ?_)
  refine lv_aload_n hx hb dL_law_1060 rfl (lv_at hl 3 rfl) ?_
  refine lv_aload_n hx hb dL_law_1061 rfl (lv_at hl 1 rfl) ?_
  refine lv_iload hx hb dL_law_1062 (lv_at hl 5 rfl) ?_
  refine lv_iconst (v := 1) hx hb dL_law_1064 (by decide) ?_
  refine lv_iadd hx hb dL_law_1065 ?_
  refine va_sld hx hb hX hbl hbA hS h1 dL_law_1066 ?_
  refine lv_topi (fun v1066 ev1066 => ?_)
  obtain rfl : a1 = v1066 := ea1.trans ev1066.symm
  refine sg_calll hD hS hA (va_runV (As := [.int a1]) (rest := []) ⟨hx, hb, hml, hown, hts⟩ (c_X3_kept l D Y _ _ ad M a1 h.six hM2) (cwV 1 hts gL_law_X3_kept rfl rfl rfl (by decide +kernel) ⟨(Nat.le_of_ble_eq_true rfl), (Nat.le_of_ble_eq_true rfl)⟩) (sg_preV (q := (RX3, TX3, 20)) (hM2.1 0 rfl) rfl hK hP hD hN hXs hS hA) rfl rfl hl.1 rfl (lv_room (Nat.le_of_ble_eq_true rfl)) dL_law_1067 ⟨by show cells + 1 + 0 ≤ 601024; omega, by show slots + 6 + 0 ≤ 7293034; omega⟩) (fun r3 σ3 H locs hw hP hD hS => ?_)
  obtain ⟨hA3, hM3⟩ := hw
  refine lv_lstore (lv' := [(6, .long r3), (5, .int r2), (0, .ref b), (1, .ref x), (2, .ref (ad 0)), (3, .ref ou), (4, .int iv)]) hx hb dL_law_1070 hl (by decide) rfl (fun ls hl => ?_)
  refine lv_aload_n hx hb dL_law_1072 rfl (lv_at hl 4 rfl) ?_
  refine sg_calli hD hS hA (va_runV (As := []) (rest := []) ⟨hx, hb, hml, hown, hts⟩ (c_X3_thrown l D Y _ _ ad _ hM3.self) (cwV 0 hts gL_law_X3_thrown rfl rfl rfl (by decide +kernel) ⟨(Nat.le_of_ble_eq_true rfl), (Nat.le_of_ble_eq_true rfl)⟩) (sg_preV (q := (RX3, TX3, 20)) (hM3.1 0 rfl) rfl hK hP hD hN hXs hS hA) rfl rfl hl.1 rfl (lv_room (Nat.le_of_ble_eq_true rfl)) dL_law_1073 ⟨by show cells + 1 + 0 + 0 ≤ 601024; omega, by show slots + 6 + 0 + 0 ≤ 7293034; omega⟩) (fun r4 σ4 H locs hw hP hD hS => ?_)
  obtain ⟨e4, rfl⟩ := hw
  have e4 : r4 = tMem M a1 := e4
  refine lv_iload hx hb dL_law_1076 (lv_at hl 1 rfl) ?_
  refine lv_icmp_eq (tgt := 1083) hx hb dL_law_1078 (by decide) (fun c9 => ?_) (fun c9 => absurd (e4.trans e2.symm) c9)
  refine lv_iload hx hb dL_law_1083 (lv_at hl 1 rfl) ?_
  refine lv_if_ne (tgt := 1099) hx hb dL_law_1085 (by decide) (fun c8 => ?_) (fun c8 => ?_)
  · have hT : ¬ tMem M a1 = 0 := fun q => (by simpa using c8 : ¬ r2 = 0) (e2.trans q)
    have e5 := gn hT
    refine lv_goto (tgt := 1335) hx hb dL_law_1099 (by decide) ?_
    refine W.widen (k := cells + 6) (n := slots + 50) (by omega) (by omega) ?_
    exact kK _ _ _ _ _ ⟨aM, N, aO, aL, aC, P, t, f, hQ.mf (fun n hn => (hM3.2 n hn).trans (congrFun e5.symm n)), hR.u19, (h.mon (by omega)).u19, ((hM3.2 120 (by omega)).trans (congrFun e5.symm 120)).trans ho, hM3.self⟩ hP hD hS (lv_sub hl [2, 3, 4, 5, 6] rfl)
  · have hT : tMem M a1 = 0 := e2.symm.trans (by simpa using c8)
    rw [hT] at hM3
    obtain ⟨bM, bN2, bO, bL, bC, bP, bt, bf, hQ2, hR2, hI2, ho2, hv2, -⟩ := g0 hT
    have ho3 := (hM3.2 120 (by omega)).trans ho2
    refine lv_aload_n hx hb dL_law_1088 rfl (lv_at hl 5 rfl) ?_
    refine lv_iconst (v := 0) hx hb dL_law_1089 (by decide) ?_
    refine va_lald hx hb hK (sg_one hP ho3) 0 1 rfl rfl (vp_in_nI (n := 0) (by decide) (by decide)) dL_law_1090 ?_
    refine lv_lload hx hb dL_law_1091 (lv_at hl 0 rfl) ?_
    refine W.lcmp hx hb dL_law_1093 ?_
    refine lv_if_eq (tgt := 1099) hx hb dL_law_1094 (by decide) (fun c7 => ?_) (fun c7 => absurd ((lg_cmp_eq _ _).mpr (hv2.trans (by rw [hA3 hT]))) c7)
    refine lv_goto (tgt := 1335) hx hb dL_law_1099 (by decide) ?_
    refine W.widen (k := cells + 6) (n := slots + 50) (by omega) (by omega) ?_
    exact kK _ _ _ _ _ ⟨bM, bN2, bO, bL, bC, bP, bt, bf, hQ2.mf hM3.2, hR2, hI2, ho3, hM3.self⟩ hP hD hS (lv_sub hl [2, 3, 4, 5, 6] rfl)

set_option maxHeartbeats 1000000 in
set_option maxRecDepth 100000 in
theorem lc_pay {p : Program} {l : Launch} {e : Env} {s : State} {m : MethodId} {below : List Frame} {meth : Method} {cd : Code} {D : va_G} {Y : Nat → ClassId} {b L : Nat} {xs : Nat → Int32} {x ou c cells slots : Nat} {ad : Nat → Nat} {M : MS} {σ : sg_W} {H : Heap} {locs : List Loc} {ls : Array Slot} {iv : Int32} {Q : State → Prop} (hE : lwE p l s m cd D Y b L xs) (hW : LW Y x ou ad M c σ) (hc : c < 512) (hP : sg_P D σ H) (hD : sg_D (fun q : Nat => s.heap.size ≤ q) σ) (hS : va_S (fun q : Nat => s.heap.size ≤ q) s.heap H locs) (hl : lv_has ls 8 (lw5 b x ou ad iv)) (hce : cells + 6 ≤ 601024) (hsl : slots + 50 ≤ 7293034) (h1 : vp_in (iv + 1) L) (h2 : vp_in (iv + 2) L) (kK : lwK p l e s m below meth cd D Y b x ou ad c iv cells slots Q) : W p l e room_1 s m #[Value.ref b] below meth cd H locs cells slots Q (F0 m 1170 ls []) := by
  obtain ⟨hx, hb, hml, hown, hts, hX, hbl, hK, hN, hC, hXs, hfl⟩ := hE
  obtain ⟨aM, N, aO, aL, aC, P, t, f, hQ, hR, h, ho, hM⟩ := hW
  have hA : ∀ q : Nat, s.heap.size ≤ q → (fun q : Nat => s.heap.size ≤ q) q := fun _ z => z
  have hbA : ¬ (fun q : Nat => s.heap.size ≤ q) b := Nat.not_le.mpr hbl
  have hl : lv_has ls 8 [(0, .ref b), (1, .ref x), (2, .ref (ad 0)), (3, .ref ou), (4, .int iv)] := hl
  obtain ⟨a1, ea1⟩ : ∃ z, z = xs (iv + 1).toNatClampNeg := ⟨_, rfl⟩
  refine lv_aload_n hx hb dL_law_1170 rfl (lv_at hl 1 rfl) ?_
  refine lv_aload_n hx hb dL_law_1171 rfl (lv_at hl 0 rfl) ?_
  refine lv_iload hx hb dL_law_1172 (lv_at hl 4 rfl) ?_
  refine lv_iconst (v := 1) hx hb dL_law_1174 (by decide) ?_
  refine lv_iadd hx hb dL_law_1175 ?_
  refine va_sld hx hb hX hbl hbA hS h1 dL_law_1176 ?_
  refine lv_topi (fun v1176 ev1176 => ?_)
  obtain rfl : a1 = v1176 := ea1.trans ev1176.symm
  refine lv_aload_n hx hb dL_law_1177 rfl (lv_at hl 3 rfl) ?_
  refine sg_xcalli hD hS hA (vx_runSX (As := [.ref x, .int a1, .ref ou]) (rest := []) ⟨hx, hb, hml, hown, hts⟩ (c_L_pay l hfl D Y _ _ x ou aM N t c aO aL aC P M f a1 hQ ho h hc hR) (vx_cwSW 3 hts gL_law_L_pay rfl rfl rfl (by decide +kernel) ⟨(Nat.le_of_ble_eq_true rfl), (Nat.le_of_ble_eq_true rfl)⟩) (lh_preS hK hP hD hN hC hXs hS hA) rfl rfl hl.1 rfl (lv_room (Nat.le_of_ble_eq_true rfl)) dL_law_1178 ⟨by show cells + 1 ≤ 601024; omega, by show slots + 6 ≤ 7293034; omega⟩) (fun E ce q9 H locs hpx hP hD hS hce hcv hcl => False.elim hpx) (fun r2 σ2 H locs hw hP hD hS => ?_)
  have hM2 : MW Y ad M σ2 := hw.mw hM
  obtain ⟨e2, g0, gn⟩ := hw
  refine lv_istore (lv' := [(5, .int r2), (0, .ref b), (1, .ref x), (2, .ref (ad 0)), (3, .ref ou), (4, .int iv)]) hx hb dL_law_1181 hl (by decide) rfl (fun ls hl => ?_)
  refine lv_aload_n hx hb dL_law_1183 rfl (lv_at hl 3 rfl) ?_
  refine lv_aload_n hx hb dL_law_1184 rfl (lv_at hl 1 rfl) ?_
  refine lv_iload hx hb dL_law_1185 (lv_at hl 5 rfl) ?_
  refine lv_iconst (v := 1) hx hb dL_law_1187 (by decide) ?_
  refine lv_iadd hx hb dL_law_1188 ?_
  refine va_sld hx hb hX hbl hbA hS h1 dL_law_1189 ?_
  refine lv_topi (fun v1189 ev1189 => ?_)
  obtain rfl : a1 = v1189 := ea1.trans ev1189.symm
  refine sg_calll hD hS hA (va_runV (As := [.int a1]) (rest := []) ⟨hx, hb, hml, hown, hts⟩ (c_X3_pay l D Y _ _ ad M a1 h.six hM2) (cwV 1 hts gL_law_X3_pay rfl rfl rfl (by decide +kernel) ⟨(Nat.le_of_ble_eq_true rfl), (Nat.le_of_ble_eq_true rfl)⟩) (sg_preV (q := (RX3, TX3, 20)) (hM2.1 0 rfl) rfl hK hP hD hN hXs hS hA) rfl rfl hl.1 rfl (lv_room (Nat.le_of_ble_eq_true rfl)) dL_law_1190 ⟨by show cells + 1 + 0 ≤ 601024; omega, by show slots + 6 + 0 ≤ 7293034; omega⟩) (fun r3 σ3 H locs hw hP hD hS => ?_)
  obtain ⟨hA3, hM3⟩ := hw
  refine lv_lstore (lv' := [(6, .long r3), (5, .int r2), (0, .ref b), (1, .ref x), (2, .ref (ad 0)), (3, .ref ou), (4, .int iv)]) hx hb dL_law_1193 hl (by decide) rfl (fun ls hl => ?_)
  refine lv_aload_n hx hb dL_law_1195 rfl (lv_at hl 4 rfl) ?_
  refine sg_calli hD hS hA (va_runV (As := []) (rest := []) ⟨hx, hb, hml, hown, hts⟩ (c_X3_thrown l D Y _ _ ad _ hM3.self) (cwV 0 hts gL_law_X3_thrown rfl rfl rfl (by decide +kernel) ⟨(Nat.le_of_ble_eq_true rfl), (Nat.le_of_ble_eq_true rfl)⟩) (sg_preV (q := (RX3, TX3, 20)) (hM3.1 0 rfl) rfl hK hP hD hN hXs hS hA) rfl rfl hl.1 rfl (lv_room (Nat.le_of_ble_eq_true rfl)) dL_law_1196 ⟨by show cells + 1 + 0 + 0 ≤ 601024; omega, by show slots + 6 + 0 + 0 ≤ 7293034; omega⟩) (fun r4 σ4 H locs hw hP hD hS => ?_)
  obtain ⟨e4, rfl⟩ := hw
  have e4 : r4 = tMem M a1 := e4
  refine lv_iload hx hb dL_law_1199 (lv_at hl 1 rfl) ?_
  refine lv_icmp_eq (tgt := 1206) hx hb dL_law_1201 (by decide) (fun c9 => ?_) (fun c9 => absurd (e4.trans e2.symm) c9)
  refine lv_iload hx hb dL_law_1206 (lv_at hl 1 rfl) ?_
  refine lv_if_ne (tgt := 1222) hx hb dL_law_1208 (by decide) (fun c8 => ?_) (fun c8 => ?_)
  · have hT : ¬ tMem M a1 = 0 := fun q => (by simpa using c8 : ¬ r2 = 0) (e2.trans q)
    have e5 := gn hT
    refine lv_goto (tgt := 1335) hx hb dL_law_1222 (by decide) ?_
    refine W.widen (k := cells + 6) (n := slots + 50) (by omega) (by omega) ?_
    exact kK _ _ _ _ _ ⟨aM, N, aO, aL, aC, P, t, f, hQ.mf (fun n hn => (hM3.2 n hn).trans (congrFun e5.symm n)), hR.u19, (h.mon (by omega)).u19, ((hM3.2 120 (by omega)).trans (congrFun e5.symm 120)).trans ho, hM3.self⟩ hP hD hS (lv_sub hl [2, 3, 4, 5, 6] rfl)
  · have hT : tMem M a1 = 0 := e2.symm.trans (by simpa using c8)
    rw [hT] at hM3
    obtain ⟨bM, bN2, bO, bL, bC, bP, bt, bf, hQ2, hR2, hI2, ho2, hv2, -⟩ := g0 hT
    have ho3 := (hM3.2 120 (by omega)).trans ho2
    refine lv_aload_n hx hb dL_law_1211 rfl (lv_at hl 5 rfl) ?_
    refine lv_iconst (v := 0) hx hb dL_law_1212 (by decide) ?_
    refine va_lald hx hb hK (sg_one hP ho3) 0 1 rfl rfl (vp_in_nI (n := 0) (by decide) (by decide)) dL_law_1213 ?_
    refine lv_lload hx hb dL_law_1214 (lv_at hl 0 rfl) ?_
    refine W.lcmp hx hb dL_law_1216 ?_
    refine lv_if_eq (tgt := 1222) hx hb dL_law_1217 (by decide) (fun c7 => ?_) (fun c7 => absurd ((lg_cmp_eq _ _).mpr (hv2.trans (by rw [hA3 hT]))) c7)
    refine lv_goto (tgt := 1335) hx hb dL_law_1222 (by decide) ?_
    refine W.widen (k := cells + 6) (n := slots + 50) (by omega) (by omega) ?_
    exact kK _ _ _ _ _ ⟨bM, bN2, bO, bL, bC, bP, bt, bf, hQ2.mf hM3.2, hR2, hI2, ho3, hM3.self⟩ hP hD hS (lv_sub hl [2, 3, 4, 5, 6] rfl)

set_option maxHeartbeats 1000000 in
set_option maxRecDepth 100000 in
theorem lc_gain {p : Program} {l : Launch} {e : Env} {s : State} {m : MethodId} {below : List Frame} {meth : Method} {cd : Code} {D : va_G} {Y : Nat → ClassId} {b L : Nat} {xs : Nat → Int32} {x ou c cells slots : Nat} {ad : Nat → Nat} {M : MS} {σ : sg_W} {H : Heap} {locs : List Loc} {ls : Array Slot} {iv : Int32} {Q : State → Prop} (hE : lwE p l s m cd D Y b L xs) (hW : LW Y x ou ad M c σ) (hc : c < 512) (hP : sg_P D σ H) (hD : sg_D (fun q : Nat => s.heap.size ≤ q) σ) (hS : va_S (fun q : Nat => s.heap.size ≤ q) s.heap H locs) (hl : lv_has ls 8 (lw5 b x ou ad iv)) (hce : cells + 6 ≤ 601024) (hsl : slots + 50 ≤ 7293034) (h1 : vp_in (iv + 1) L) (h2 : vp_in (iv + 2) L) (kK : lwK p l e s m below meth cd D Y b x ou ad c iv cells slots Q) : W p l e room_1 s m #[Value.ref b] below meth cd H locs cells slots Q (F0 m 1225 ls []) := by
  obtain ⟨hx, hb, hml, hown, hts, hX, hbl, hK, hN, hC, hXs, hfl⟩ := hE
  obtain ⟨aM, N, aO, aL, aC, P, t, f, hQ, hR, h, ho, hM⟩ := hW
  have hA : ∀ q : Nat, s.heap.size ≤ q → (fun q : Nat => s.heap.size ≤ q) q := fun _ z => z
  have hbA : ¬ (fun q : Nat => s.heap.size ≤ q) b := Nat.not_le.mpr hbl
  have hl : lv_has ls 8 [(0, .ref b), (1, .ref x), (2, .ref (ad 0)), (3, .ref ou), (4, .int iv)] := hl
  obtain ⟨a1, ea1⟩ : ∃ z, z = xs (iv + 1).toNatClampNeg := ⟨_, rfl⟩
  refine lv_aload_n hx hb dL_law_1225 rfl (lv_at hl 1 rfl) ?_
  refine lv_aload_n hx hb dL_law_1226 rfl (lv_at hl 0 rfl) ?_
  refine lv_iload hx hb dL_law_1227 (lv_at hl 4 rfl) ?_
  refine lv_iconst (v := 1) hx hb dL_law_1229 (by decide) ?_
  refine lv_iadd hx hb dL_law_1230 ?_
  refine va_sld hx hb hX hbl hbA hS h1 dL_law_1231 ?_
  refine lv_topi (fun v1231 ev1231 => ?_)
  obtain rfl : a1 = v1231 := ea1.trans ev1231.symm
  refine lv_aload_n hx hb dL_law_1232 rfl (lv_at hl 3 rfl) ?_
  refine sg_xcalli hD hS hA (vx_runSX (As := [.ref x, .int a1, .ref ou]) (rest := []) ⟨hx, hb, hml, hown, hts⟩ (c_L_gain l hfl D Y _ _ x ou aM N t c aO aL aC P M f a1 hQ ho h hc hR) (vx_cwSW 3 hts gL_law_L_gain rfl rfl rfl (by decide +kernel) ⟨(Nat.le_of_ble_eq_true rfl), (Nat.le_of_ble_eq_true rfl)⟩) (lh_preS hK hP hD hN hC hXs hS hA) rfl rfl hl.1 rfl (lv_room (Nat.le_of_ble_eq_true rfl)) dL_law_1233 ⟨by show cells + 1 ≤ 601024; omega, by show slots + 6 ≤ 7293034; omega⟩) (fun E ce q9 H locs hpx hP hD hS hce hcv hcl => False.elim hpx) (fun r2 σ2 H locs hw hP hD hS => ?_)
  have hM2 : MW Y ad M σ2 := hw.mw hM
  obtain ⟨e2, g0, gn⟩ := hw
  refine lv_istore (lv' := [(5, .int r2), (0, .ref b), (1, .ref x), (2, .ref (ad 0)), (3, .ref ou), (4, .int iv)]) hx hb dL_law_1236 hl (by decide) rfl (fun ls hl => ?_)
  refine lv_aload_n hx hb dL_law_1238 rfl (lv_at hl 3 rfl) ?_
  refine lv_aload_n hx hb dL_law_1239 rfl (lv_at hl 1 rfl) ?_
  refine lv_iload hx hb dL_law_1240 (lv_at hl 5 rfl) ?_
  refine lv_iconst (v := 1) hx hb dL_law_1242 (by decide) ?_
  refine lv_iadd hx hb dL_law_1243 ?_
  refine va_sld hx hb hX hbl hbA hS h1 dL_law_1244 ?_
  refine lv_topi (fun v1244 ev1244 => ?_)
  obtain rfl : a1 = v1244 := ea1.trans ev1244.symm
  refine sg_calll hD hS hA (va_runV (As := [.int a1]) (rest := []) ⟨hx, hb, hml, hown, hts⟩ (c_X3_gain l D Y _ _ ad M a1 h.six hM2) (cwV 1 hts gL_law_X3_gain rfl rfl rfl (by decide +kernel) ⟨(Nat.le_of_ble_eq_true rfl), (Nat.le_of_ble_eq_true rfl)⟩) (sg_preV (q := (RX3, TX3, 20)) (hM2.1 0 rfl) rfl hK hP hD hN hXs hS hA) rfl rfl hl.1 rfl (lv_room (Nat.le_of_ble_eq_true rfl)) dL_law_1245 ⟨by show cells + 1 + 0 ≤ 601024; omega, by show slots + 6 + 0 ≤ 7293034; omega⟩) (fun r3 σ3 H locs hw hP hD hS => ?_)
  obtain ⟨hA3, hM3⟩ := hw
  refine lv_lstore (lv' := [(6, .long r3), (5, .int r2), (0, .ref b), (1, .ref x), (2, .ref (ad 0)), (3, .ref ou), (4, .int iv)]) hx hb dL_law_1248 hl (by decide) rfl (fun ls hl => ?_)
  refine lv_aload_n hx hb dL_law_1250 rfl (lv_at hl 4 rfl) ?_
  refine sg_calli hD hS hA (va_runV (As := []) (rest := []) ⟨hx, hb, hml, hown, hts⟩ (c_X3_thrown l D Y _ _ ad _ hM3.self) (cwV 0 hts gL_law_X3_thrown rfl rfl rfl (by decide +kernel) ⟨(Nat.le_of_ble_eq_true rfl), (Nat.le_of_ble_eq_true rfl)⟩) (sg_preV (q := (RX3, TX3, 20)) (hM3.1 0 rfl) rfl hK hP hD hN hXs hS hA) rfl rfl hl.1 rfl (lv_room (Nat.le_of_ble_eq_true rfl)) dL_law_1251 ⟨by show cells + 1 + 0 + 0 ≤ 601024; omega, by show slots + 6 + 0 + 0 ≤ 7293034; omega⟩) (fun r4 σ4 H locs hw hP hD hS => ?_)
  obtain ⟨e4, rfl⟩ := hw
  have e4 : r4 = tMem M a1 := e4
  refine lv_iload hx hb dL_law_1254 (lv_at hl 1 rfl) ?_
  refine lv_icmp_eq (tgt := 1261) hx hb dL_law_1256 (by decide) (fun c9 => ?_) (fun c9 => absurd (e4.trans e2.symm) c9)
  refine lv_iload hx hb dL_law_1261 (lv_at hl 1 rfl) ?_
  refine lv_if_ne (tgt := 1277) hx hb dL_law_1263 (by decide) (fun c8 => ?_) (fun c8 => ?_)
  · have hT : ¬ tMem M a1 = 0 := fun q => (by simpa using c8 : ¬ r2 = 0) (e2.trans q)
    have e5 := gn hT
    refine lv_goto (tgt := 1335) hx hb dL_law_1277 (by decide) ?_
    refine W.widen (k := cells + 6) (n := slots + 50) (by omega) (by omega) ?_
    exact kK _ _ _ _ _ ⟨aM, N, aO, aL, aC, P, t, f, hQ.mf (fun n hn => (hM3.2 n hn).trans (congrFun e5.symm n)), hR.u19, (h.mon (by omega)).u19, ((hM3.2 120 (by omega)).trans (congrFun e5.symm 120)).trans ho, hM3.self⟩ hP hD hS (lv_sub hl [2, 3, 4, 5, 6] rfl)
  · have hT : tMem M a1 = 0 := e2.symm.trans (by simpa using c8)
    rw [hT] at hM3
    obtain ⟨bM, bN2, bO, bL, bC, bP, bt, bf, hQ2, hR2, hI2, ho2, hv2, -⟩ := g0 hT
    have ho3 := (hM3.2 120 (by omega)).trans ho2
    refine lv_aload_n hx hb dL_law_1266 rfl (lv_at hl 5 rfl) ?_
    refine lv_iconst (v := 0) hx hb dL_law_1267 (by decide) ?_
    refine va_lald hx hb hK (sg_one hP ho3) 0 1 rfl rfl (vp_in_nI (n := 0) (by decide) (by decide)) dL_law_1268 ?_
    refine lv_lload hx hb dL_law_1269 (lv_at hl 0 rfl) ?_
    refine W.lcmp hx hb dL_law_1271 ?_
    refine lv_if_eq (tgt := 1277) hx hb dL_law_1272 (by decide) (fun c7 => ?_) (fun c7 => absurd ((lg_cmp_eq _ _).mpr (hv2.trans (by rw [hA3 hT]))) c7)
    refine lv_goto (tgt := 1335) hx hb dL_law_1277 (by decide) ?_
    refine W.widen (k := cells + 6) (n := slots + 50) (by omega) (by omega) ?_
    exact kK _ _ _ _ _ ⟨bM, bN2, bO, bL, bC, bP, bt, bf, hQ2.mf hM3.2, hR2, hI2, ho3, hM3.self⟩ hP hD hS (lv_sub hl [2, 3, 4, 5, 6] rfl)

set_option maxHeartbeats 1000000 in
set_option maxRecDepth 100000 in
theorem lc_gainNow {p : Program} {l : Launch} {e : Env} {s : State} {m : MethodId} {below : List Frame} {meth : Method} {cd : Code} {D : va_G} {Y : Nat → ClassId} {b L : Nat} {xs : Nat → Int32} {x ou c cells slots : Nat} {ad : Nat → Nat} {M : MS} {σ : sg_W} {H : Heap} {locs : List Loc} {ls : Array Slot} {iv : Int32} {Q : State → Prop} (hE : lwE p l s m cd D Y b L xs) (hW : LW Y x ou ad M c σ) (hc : c < 512) (hP : sg_P D σ H) (hD : sg_D (fun q : Nat => s.heap.size ≤ q) σ) (hS : va_S (fun q : Nat => s.heap.size ≤ q) s.heap H locs) (hl : lv_has ls 8 (lw5 b x ou ad iv)) (hce : cells + 6 ≤ 601024) (hsl : slots + 50 ≤ 7293034) (h1 : vp_in (iv + 1) L) (h2 : vp_in (iv + 2) L) (kK : lwK p l e s m below meth cd D Y b x ou ad c iv cells slots Q) : W p l e room_1 s m #[Value.ref b] below meth cd H locs cells slots Q (F0 m 1280 ls []) := by
  obtain ⟨hx, hb, hml, hown, hts, hX, hbl, hK, hN, hC, hXs, hfl⟩ := hE
  obtain ⟨aM, N, aO, aL, aC, P, t, f, hQ, hR, h, ho, hM⟩ := hW
  have hA : ∀ q : Nat, s.heap.size ≤ q → (fun q : Nat => s.heap.size ≤ q) q := fun _ z => z
  have hbA : ¬ (fun q : Nat => s.heap.size ≤ q) b := Nat.not_le.mpr hbl
  have hl : lv_has ls 8 [(0, .ref b), (1, .ref x), (2, .ref (ad 0)), (3, .ref ou), (4, .int iv)] := hl
  obtain ⟨a1, ea1⟩ : ∃ z, z = xs (iv + 1).toNatClampNeg := ⟨_, rfl⟩
  refine lv_aload_n hx hb dL_law_1280 rfl (lv_at hl 1 rfl) ?_
  refine lv_aload_n hx hb dL_law_1281 rfl (lv_at hl 0 rfl) ?_
  refine lv_iload hx hb dL_law_1282 (lv_at hl 4 rfl) ?_
  refine lv_iconst (v := 1) hx hb dL_law_1284 (by decide) ?_
  refine lv_iadd hx hb dL_law_1285 ?_
  refine va_sld hx hb hX hbl hbA hS h1 dL_law_1286 ?_
  refine lv_topi (fun v1286 ev1286 => ?_)
  obtain rfl : a1 = v1286 := ea1.trans ev1286.symm
  refine lv_aload_n hx hb dL_law_1287 rfl (lv_at hl 3 rfl) ?_
  refine sg_xcalli hD hS hA (vx_runSX (As := [.ref x, .int a1, .ref ou]) (rest := []) ⟨hx, hb, hml, hown, hts⟩ (c_L_gainNow l hfl D Y _ _ x ou aM N t c aO aL aC P M f a1 hQ ho h hc hR) (vx_cwSW 3 hts gL_law_L_gainNow rfl rfl rfl (by decide +kernel) ⟨(Nat.le_of_ble_eq_true rfl), (Nat.le_of_ble_eq_true rfl)⟩) (lh_preS hK hP hD hN hC hXs hS hA) rfl rfl hl.1 rfl (lv_room (Nat.le_of_ble_eq_true rfl)) dL_law_1288 ⟨by show cells + 1 ≤ 601024; omega, by show slots + 6 ≤ 7293034; omega⟩) (fun E ce q9 H locs hpx hP hD hS hce hcv hcl => False.elim hpx) (fun r2 σ2 H locs hw hP hD hS => ?_)
  have hM2 : MW Y ad M σ2 := hw.mw hM
  obtain ⟨e2, g0, gn⟩ := hw
  refine lv_istore (lv' := [(5, .int r2), (0, .ref b), (1, .ref x), (2, .ref (ad 0)), (3, .ref ou), (4, .int iv)]) hx hb dL_law_1291 hl (by decide) rfl (fun ls hl => ?_)
  refine lv_aload_n hx hb dL_law_1293 rfl (lv_at hl 3 rfl) ?_
  refine lv_aload_n hx hb dL_law_1294 rfl (lv_at hl 1 rfl) ?_
  refine lv_iload hx hb dL_law_1295 (lv_at hl 5 rfl) ?_
  refine lv_iconst (v := 1) hx hb dL_law_1297 (by decide) ?_
  refine lv_iadd hx hb dL_law_1298 ?_
  refine va_sld hx hb hX hbl hbA hS h1 dL_law_1299 ?_
  refine lv_topi (fun v1299 ev1299 => ?_)
  obtain rfl : a1 = v1299 := ea1.trans ev1299.symm
  refine sg_calll hD hS hA (va_runV (As := [.int a1]) (rest := []) ⟨hx, hb, hml, hown, hts⟩ (c_X3_gainNow l D Y _ _ ad M a1 h.six h.ho h.hm hM2) (cwV 1 hts gL_law_X3_gainNow rfl rfl rfl (by decide +kernel) ⟨(Nat.le_of_ble_eq_true rfl), (Nat.le_of_ble_eq_true rfl)⟩) (sg_preV (q := (RX3, TX3, 20)) (hM2.1 0 rfl) rfl hK hP hD hN hXs hS hA) rfl rfl hl.1 rfl (lv_room (Nat.le_of_ble_eq_true rfl)) dL_law_1300 ⟨by show cells + 1 + 0 ≤ 601024; omega, by show slots + 6 + 0 ≤ 7293034; omega⟩) (fun r3 σ3 H locs hw hP hD hS => ?_)
  obtain ⟨hA3, hM3⟩ := hw
  refine lv_lstore (lv' := [(6, .long r3), (5, .int r2), (0, .ref b), (1, .ref x), (2, .ref (ad 0)), (3, .ref ou), (4, .int iv)]) hx hb dL_law_1303 hl (by decide) rfl (fun ls hl => ?_)
  refine lv_aload_n hx hb dL_law_1305 rfl (lv_at hl 4 rfl) ?_
  refine sg_calli hD hS hA (va_runV (As := []) (rest := []) ⟨hx, hb, hml, hown, hts⟩ (c_X3_thrown l D Y _ _ ad _ hM3.self) (cwV 0 hts gL_law_X3_thrown rfl rfl rfl (by decide +kernel) ⟨(Nat.le_of_ble_eq_true rfl), (Nat.le_of_ble_eq_true rfl)⟩) (sg_preV (q := (RX3, TX3, 20)) (hM3.1 0 rfl) rfl hK hP hD hN hXs hS hA) rfl rfl hl.1 rfl (lv_room (Nat.le_of_ble_eq_true rfl)) dL_law_1306 ⟨by show cells + 1 + 0 + 0 ≤ 601024; omega, by show slots + 6 + 0 + 0 ≤ 7293034; omega⟩) (fun r4 σ4 H locs hw hP hD hS => ?_)
  obtain ⟨e4, rfl⟩ := hw
  have e4 : r4 = tMem M a1 := e4
  refine lv_iload hx hb dL_law_1309 (lv_at hl 1 rfl) ?_
  refine lv_icmp_eq (tgt := 1316) hx hb dL_law_1311 (by decide) (fun c9 => ?_) (fun c9 => absurd (e4.trans e2.symm) c9)
  refine lv_iload hx hb dL_law_1316 (lv_at hl 1 rfl) ?_
  refine lv_if_ne (tgt := 1332) hx hb dL_law_1318 (by decide) (fun c8 => ?_) (fun c8 => ?_)
  · have hT : ¬ tMem M a1 = 0 := fun q => (by simpa using c8 : ¬ r2 = 0) (e2.trans q)
    have e5 := gn hT
    refine lv_goto (tgt := 1335) hx hb dL_law_1332 (by decide) ?_
    refine W.widen (k := cells + 6) (n := slots + 50) (by omega) (by omega) ?_
    exact kK _ _ _ _ _ ⟨aM, N, aO, aL, aC, P, t, f, hQ.mf (fun n hn => (hM3.2 n hn).trans (congrFun e5.symm n)), hR.u19, (h.mon (by omega)).u19, ((hM3.2 120 (by omega)).trans (congrFun e5.symm 120)).trans ho, hM3.self⟩ hP hD hS (lv_sub hl [2, 3, 4, 5, 6] rfl)
  · have hT : tMem M a1 = 0 := e2.symm.trans (by simpa using c8)
    rw [hT] at hM3
    obtain ⟨bM, bN2, bO, bL, bC, bP, bt, bf, hQ2, hR2, hI2, ho2, hv2, -⟩ := g0 hT
    have ho3 := (hM3.2 120 (by omega)).trans ho2
    refine lv_aload_n hx hb dL_law_1321 rfl (lv_at hl 5 rfl) ?_
    refine lv_iconst (v := 0) hx hb dL_law_1322 (by decide) ?_
    refine va_lald hx hb hK (sg_one hP ho3) 0 1 rfl rfl (vp_in_nI (n := 0) (by decide) (by decide)) dL_law_1323 ?_
    refine lv_lload hx hb dL_law_1324 (lv_at hl 0 rfl) ?_
    refine W.lcmp hx hb dL_law_1326 ?_
    refine lv_if_eq (tgt := 1332) hx hb dL_law_1327 (by decide) (fun c7 => ?_) (fun c7 => absurd ((lg_cmp_eq _ _).mpr (hv2.trans (by rw [hA3 hT]))) c7)
    refine lv_goto (tgt := 1335) hx hb dL_law_1332 (by decide) ?_
    refine W.widen (k := cells + 6) (n := slots + 50) (by omega) (by omega) ?_
    exact kK _ _ _ _ _ ⟨bM, bN2, bO, bL, bC, bP, bt, bf, hQ2.mf hM3.2, hR2, hI2, ho3, hM3.self⟩ hP hD hS (lv_sub hl [2, 3, 4, 5, 6] rfl)
