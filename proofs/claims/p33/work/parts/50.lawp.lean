set_option maxHeartbeats 4000000 in
set_option maxRecDepth 100000 in
theorem law_pull {p : Program} {l : Launch} {e : Env} {s : State} {m : MethodId} {below : List Frame} {meth : Method} {c : Code} {ls : Array Slot} {D : va_G} {cy cz : ClassId} {h g b N L t ld mo q : Nat} {a : Nat → Nat} {ad : Nat → Nat → Nat} {A : Nat → Nat → Int32} {x : Int32} {dg : Int64} {H : Heap} {locs : List Loc} {cells slots : Nat} {Q : State → Prop} (hx : p.tables.exec = Jvm.exec) (hb : c.code = cL_law) (hml : c.maxLocals = 22) (hts : ∀ w ∈ kr_all, w.before #[Value.ref b] s = true) (hown : s.vm.findClass RL = some m.cls) (hK : va_K D vwCl [(cy, .int), (cz, .array .int)] s) (hw : kr_wf N L A) (hx0 : kr_wx N L A) (hN2 : 2 ≤ N) (hL1 : 1 ≤ L) (hJ : va_P D vwCl (kr_JW cy cz h a g ad N L A) H) (hc9 : cells ≤ 5000) (hs9 : slots ≤ 50000) (hZ : kr_AO s) (hld1 : 1 ≤ ld) (hld2 : ld ≤ 999) (hq : q < L) (hr0 : 0 < kr_rc A q) (hD : va_D (kr_new s) (kr_JW cy cz h a g ad N L A)) (hS : va_S (kr_new s) s.heap H locs) (hl : lv_has ls 22 [(0, .ref b), (1, .ref h), (2, .ref g), (3, .int (nI t)), (4, .int x), (5, .long dg), (8, .int (nI ld)), (11, .int (nI q)), (12, .int (nI (kr_rc A q)))]) (kk : ∀ (ad : Nat → Nat → Nat) (A : Nat → Nat → Int32) (H : Heap) (locs : List Loc) (ls : Array Slot), kr_wf N L A → kr_wx N L A → va_P D vwCl (kr_JW cy cz h a g ad N L A) H → va_D (kr_new s) (kr_JW cy cz h a g ad N L A) → va_S (kr_new s) s.heap H locs → lv_has ls 22 [(0, .ref b), (1, .ref h), (2, .ref g), (3, .int (nI t))] → W p l e room_1 s m #[Value.ref b] below meth c H locs (cells + 12) (slots + 30) Q (F0 m 1164 ls [])) : W p l e room_1 s m #[Value.ref b] below meth c H locs cells slots Q (F0 m 1003 ls []) := by
  have hN := hw.1
  have hL := hw.2.1
  have hK0 : va_K D vwCl [(cy, .int)] s := hK.sub [0] rfl
  have hPc : va_P D vwCl (kr_W0 cy h a N L A) H := kr_Pl hJ
  have hP : va_P D vwCl (kr_SW cy cz g ad N L A) H := kr_Pr hJ
  obtain ⟨hr9, er⟩ := hw.rc hq
  have hA : ∀ q : Nat, s.heap.size ≤ q → kr_new s q := fun q h9 => h9
  refine lv_iconst (v := 1) hx hb dL_law_1003 (by decide) ?_
  refine lv_iload hx hb dL_law_1004 (lv_at hl 6 rfl) ?_
  refine lv_iconst (v := 1) hx hb dL_law_1006 (by decide) ?_
  refine kr_isubN hx hb ld 1 (by omega) dL_law_1007 ?_
  refine lv_iconst (v := 1) hx hb dL_law_1008 (by decide) ?_
  refine lv_iload hx hb dL_law_1009 (lv_at hl 4 rfl) ?_
  refine lv_bipush (v := 8) hx hb dL_law_1011 (by decide) ?_
  refine lv_ishr hx hb dL_law_1013 ?_
  refine lv_bipush (v := 6) hx hb dL_law_1014 (by decide) ?_
  refine kr_sI (n := 2) (As := [.int (x >>> (8 &&& 31)), .int 6]) (rest := [.int 1, .int (nI (ld - 1)), .int 1]) ⟨hx, hb, hml, hown, hts⟩ (c_L_below l (x >>> (8 &&& 31)) 6 (by omega) (by omega)) kg_RL_18 ⟨rfl, rfl⟩ (by decide +kernel) ⟨Nat.le_of_ble_eq_true rfl, Nat.le_of_ble_eq_true rfl⟩ ⟨kr_blT, fun U hU hW => ⟨rfl, trivial⟩⟩ rfl hl.1 rfl (Nat.le_of_ble_eq_true rfl) dL_law_1016 ⟨show cells + 0 ≤ 960946 by omega, show slots + 0 ≤ 6218629 by omega⟩ (fun r9 e9 => ?_)
  obtain ⟨jb, hjb, rfl⟩ := e9
  refine kr_iaddN hx hb 1 jb dL_law_1019 ?_
  refine lv_idiv hx hb dL_law_1020 (nI_ne0 (by omega) (by omega)) ?_
  rw [pk_div (a := ld - 1) (d := 1 + jb) (by omega) (by omega) (by omega)]
  have hsm : (ld - 1) / (1 + jb) ≤ 998 := Nat.le_trans (Nat.div_le_self _ _) (by omega)
  generalize (ld - 1) / (1 + jb) = dv at hsm ⊢
  refine kr_iaddN hx hb 1 dv dL_law_1021 ?_
  obtain ⟨sm, hsm0⟩ : ∃ z, z = 1 + dv := ⟨_, rfl⟩
  rw [← hsm0]
  have hs1 : 1 ≤ sm := by omega
  have hs2 : sm ≤ 999 := by omega
  have hld := kr_rgN (z := sm) (lo := 1) (hi := 999) hs1 hs2 (by decide)
  have hwP : kr_wf N L (kr_pA A q (nI sm)) := kr_wf_p hw hq (Nat.le_refl _)
  have hxP : kr_wx N L (kr_pA A q (nI sm)) := kr_wx_p hw hx0 hq (Nat.le_refl _)
  have hrP : kr_rc (kr_pA A q (nI sm)) q = kr_pr' A q (nI sm) := by unfold kr_pA; rw [kr_pB_rc hr9, if_pos rfl]
  have hpl := (kr_pr_le (ld := nI sm) hr9).1
  have h5P : (kr_pA A q (nI sm)) 5 q = nI (kr_pr' A q (nI sm)) := pk_us
  refine lv_istore (lv' := [(18, .int (nI sm)), (0, .ref b), (1, .ref h), (2, .ref g), (3, .int (nI t)), (4, .int x), (5, .long dg), (8, .int (nI ld)), (11, .int (nI q)), (12, .int (nI (kr_rc A q)))]) hx hb dL_law_1022 hl (by decide) rfl (fun ls hl => ?_)
  refine lv_aload_n hx hb dL_law_1024 rfl (lv_at hl 2 rfl) ?_
  refine lv_iload hx hb dL_law_1025 (lv_at hl 8 rfl) ?_
  refine lv_iload hx hb dL_law_1027 (lv_at hl 0 rfl) ?_
  refine kr_vI (n := 2) (As := [.int (nI q), .int (nI sm)]) (rest := []) ⟨hx, hb, hml, hown, hts⟩ (c_X0_wouldGiveWay l D cy h a N L A q (nI sm) hw hq hld) kg_RL_137 ⟨rfl, rfl⟩ (by decide +kernel) ⟨Nat.le_of_ble_eq_true rfl, Nat.le_of_ble_eq_true rfl⟩ (kr_pv0 hPc hK0) rfl hl.1 rfl (Nat.le_of_ble_eq_true rfl) dL_law_1029 ⟨show cells + 0 ≤ 960946 by omega, show slots + 0 ≤ 6218629 by omega⟩ (fun r9 e9 => ?_)
  subst e9
  refine lv_istore (lv' := [(19, .int (kr_gw A q (nI sm))), (18, .int (nI sm)), (0, .ref b), (1, .ref h), (2, .ref g), (3, .int (nI t)), (4, .int x), (5, .long dg), (8, .int (nI ld)), (11, .int (nI q)), (12, .int (nI (kr_rc A q)))]) hx hb dL_law_1032 hl (by decide) rfl (fun ls hl => ?_)
  refine lv_aload_n hx hb dL_law_1034 rfl (lv_at hl 3 rfl) ?_
  refine lv_iload hx hb dL_law_1035 (lv_at hl 9 rfl) ?_
  refine lv_iload hx hb dL_law_1037 (lv_at hl 1 rfl) ?_
  refine kr_jwI (n := 2) (As := [.int (nI q), .int (nI sm)]) (rest := []) ⟨hx, hb, hml, hown, hts⟩ (c_X0_pull l D cy h a N L A _ q (nI sm) hw hq hld (by rw [er]; exact nI_ne0 hr0 (by omega))) kg_RL_60 ⟨rfl, rfl⟩ (by decide +kernel) ⟨Nat.le_of_ble_eq_true rfl, Nat.le_of_ble_eq_true rfl⟩ hJ hK hD hS hA rfl hl.1 rfl (Nat.le_of_ble_eq_true rfl) dL_law_1039 ⟨show cells + 0 ≤ 960946 by omega, show slots + 0 ≤ 6218629 by omega⟩ (fun r9 H locs e9 hJ hD hS => ?_)
  subst e9
  have hPc : va_P D vwCl (kr_W0 cy h a N L (kr_pA A q (nI sm))) H := kr_Pl hJ
  refine lv_iload hx hb dL_law_1042 (lv_at hl 0 rfl) ?_
  refine lv_icmp_ne (tgt := 1068) hx hb dL_law_1044 (by decide) (fun c1044 => absurd rfl c1044) (fun c1044 => ?_)
  refine lv_aload_n hx hb dL_law_1047 rfl (lv_at hl 3 rfl) ?_
  refine lv_iload hx hb dL_law_1048 (lv_at hl 9 rfl) ?_
  refine kr_vI (n := 1) (As := [.int (nI q)]) (rest := []) ⟨hx, hb, hml, hown, hts⟩ (c_X0_ropesOf l D cy h a N L (kr_pA A q (nI sm)) q hwP hq) kg_RL_130 ⟨rfl, rfl⟩ (by decide +kernel) ⟨Nat.le_of_ble_eq_true rfl, Nat.le_of_ble_eq_true rfl⟩ (kr_pv0 hPc hK0) rfl hl.1 rfl (Nat.le_of_ble_eq_true rfl) dL_law_1050 ⟨show cells + 0 ≤ 960946 by omega, show slots + 0 ≤ 6218629 by omega⟩ (fun r9 e9 => ?_)
  subst e9
  rw [h5P]
  refine kr_cut (pcJ := 1070) (stJ := []) ?_ (fun key1070 => ?_)
  · refine lv_aload_n hx hb dL_law_1070 rfl (lv_at hl 4 rfl) ?_
    refine lv_iload hx hb dL_law_1071 (lv_at hl 9 rfl) ?_
    refine lv_iload hx hb dL_law_1073 (lv_at hl 1 rfl) ?_
    refine kr_jwP (n := 2) (mc := 12) (ms := 30) (w := kr_W0 cy h a N L (kr_pA A q (nI sm))) (As := [.int (nI q), .int (nI sm)]) (rest := []) ⟨hx, hb, hml, hown, hts⟩ (c_X1_pull l D cy cz g ad N L A _ q (nI sm) hw hx0 hq) kg_RL_56 ⟨rfl, rfl⟩ (by decide +kernel) ⟨Nat.le_of_ble_eq_true rfl, Nat.le_of_ble_eq_true rfl⟩ hJ hK hD hZ hS hA rfl hl.1 rfl (Nat.le_of_ble_eq_true rfl) dL_law_1075 ⟨show cells + 12 ≤ 960946 by omega, show slots + 30 ≤ 6218629 by omega⟩ (fun ad2 H locs _ hJ hD hS => ?_)
    have hPc : va_P D vwCl (kr_W0 cy h a N L (kr_pA A q (nI sm))) H := kr_Pl hJ
    refine lv_iconst (v := 0) hx hb dL_law_1078 (by decide) ?_
    refine lv_istore (lv' := [(20, .int 0), (19, .int (kr_gw A q (nI sm))), (18, .int (nI sm)), (0, .ref b), (1, .ref h), (2, .ref g), (3, .int (nI t)), (4, .int x), (5, .long dg), (8, .int (nI ld)), (11, .int (nI q)), (12, .int (nI (kr_rc A q)))]) hx hb dL_law_1079 hl (by decide) rfl (fun ls hl => ?_)
    refine kr_lp (nL := 22) (fun z : Nat => [(20, .int (nI z)), (19, .int (kr_gw A q (nI sm))), (18, .int (nI sm)), (0, .ref b), (1, .ref h), (2, .ref g), (3, .int (nI t)), (4, .int x), (5, .long dg), (8, .int (nI ld)), (11, .int (nI q)), (12, .int (nI (kr_rc A q)))]) (fun z => z ≤ kr_pr' A q (nI sm)) (fun z => kr_pr' A q (nI sm) - z) ?_ (0) (Nat.zero_le _) (lv_sub hl [0, 1, 2, 3, 4, 5, 6, 7, 8, 9, 10, 11] rfl)
    clear hl
    intro z ls hI hl ih
    obtain ⟨p9, rfl⟩ : ∃ y, y = z := ⟨_, rfl⟩
    have hl : lv_has ls 22 [(20, .int (nI p9)), (19, .int (kr_gw A q (nI sm))), (18, .int (nI sm)), (0, .ref b), (1, .ref h), (2, .ref g), (3, .int (nI t)), (4, .int x), (5, .long dg), (8, .int (nI ld)), (11, .int (nI q)), (12, .int (nI (kr_rc A q)))] := hl
    obtain hp99 : p9 ≤ kr_pr' A q (nI sm) := hI
    refine lv_iload hx hb dL_law_1081 (lv_at hl 0 rfl) ?_
    refine lv_aload_n hx hb dL_law_1083 rfl (lv_at hl 4 rfl) ?_
    refine lv_iload hx hb dL_law_1084 (lv_at hl 10 rfl) ?_
    refine kr_vI (n := 1) (As := [.int (nI q)]) (rest := [.int (nI p9)]) ⟨hx, hb, hml, hown, hts⟩ (c_X0_ropesOf l D cy h a N L (kr_pA A q (nI sm)) q hwP hq) kg_RL_130 ⟨rfl, rfl⟩ (by decide +kernel) ⟨Nat.le_of_ble_eq_true rfl, Nat.le_of_ble_eq_true rfl⟩ (kr_pv0 hPc hK0) rfl hl.1 rfl (Nat.le_of_ble_eq_true rfl) dL_law_1086 ⟨show cells + 12 + 0 ≤ 960946 by omega, show slots + 30 + 0 ≤ 6218629 by omega⟩ (fun r9 e9 => ?_)
    subst e9
    rw [h5P]
    refine lv_icmp_ge (tgt := 1125) hx hb dL_law_1089 (by decide) (fun c1089 => ?_) (fun c1089 => ?_)
    · refine lv_aload_n hx hb dL_law_1125 rfl (lv_at hl 4 rfl) ?_
      refine kr_vL (n := 0) (As := []) (rest := []) ⟨hx, hb, hml, hown, hts⟩ (c_X0_digest l D cy h a N L (kr_pA A q (nI sm)) hwP) kg_RL_78 ⟨rfl, rfl⟩ (by decide +kernel) ⟨Nat.le_of_ble_eq_true rfl, Nat.le_of_ble_eq_true rfl⟩ (kr_pv0 hPc hK0) rfl hl.1 rfl (Nat.le_of_ble_eq_true rfl) dL_law_1126 ⟨show cells + 12 + 0 ≤ 960946 by omega, show slots + 30 + 0 ≤ 6218629 by omega⟩ (fun r9 e9 => ?_)
      subst e9
      refine lv_lstore (lv' := [(20, .long (kr_dg N L (kr_pA A q (nI sm)))), (19, .int (kr_gw A q (nI sm))), (18, .int (nI sm)), (0, .ref b), (1, .ref h), (2, .ref g), (3, .int (nI t)), (4, .int x), (5, .long dg), (8, .int (nI ld)), (11, .int (nI q)), (12, .int (nI (kr_rc A q)))]) hx hb dL_law_1129 hl (by decide) rfl (fun ls hl => ?_)
      refine lv_aload_n hx hb dL_law_1131 rfl (lv_at hl 4 rfl) ?_
      refine lv_iload hx hb dL_law_1132 (lv_at hl 10 rfl) ?_
      refine kr_vI (n := 1) (As := [.int (nI q)]) (rest := []) ⟨hx, hb, hml, hown, hts⟩ (c_X0_ropesOf l D cy h a N L (kr_pA A q (nI sm)) q hwP hq) kg_RL_130 ⟨rfl, rfl⟩ (by decide +kernel) ⟨Nat.le_of_ble_eq_true rfl, Nat.le_of_ble_eq_true rfl⟩ (kr_pv0 hPc hK0) rfl hl.1 rfl (Nat.le_of_ble_eq_true rfl) dL_law_1134 ⟨show cells + 12 + 0 ≤ 960946 by omega, show slots + 30 + 0 ≤ 6218629 by omega⟩ (fun r9 e9 => ?_)
      subst e9
      rw [h5P]
      refine lv_if_le (tgt := 1164) hx hb dL_law_1137 (by decide) (fun c1137 => ?_) (fun c1137 => ?_)
      · exact kk ad2 (kr_pA A q (nI sm)) _ _ _ hwP hxP hJ hD hS (lv_sub hl [3, 4, 5, 6] rfl)
      · have hp0 : 0 < kr_pr' A q (nI sm) := kr_lt (a := 0) (b := kr_pr' A q (nI sm)) (by decide) (by omega) c1137
        refine lv_aload_n hx hb dL_law_1140 rfl (lv_at hl 4 rfl) ?_
        refine lv_iload hx hb dL_law_1141 (lv_at hl 10 rfl) ?_
        refine lv_iload hx hb dL_law_1143 (lv_at hl 2 rfl) ?_
        refine kr_jwI (n := 2) (As := [.int (nI q), .int (nI sm)]) (rest := []) ⟨hx, hb, hml, hown, hts⟩ (c_X0_pull l D cy h a N L (kr_pA A q (nI sm)) _ q (nI sm) hwP hq hld (by rw [h5P]; exact nI_ne0 hp0 (by omega))) kg_RL_60 ⟨rfl, rfl⟩ (by decide +kernel) ⟨Nat.le_of_ble_eq_true rfl, Nat.le_of_ble_eq_true rfl⟩ hJ hK hD hS hA rfl hl.1 rfl (Nat.le_of_ble_eq_true rfl) dL_law_1145 ⟨show cells + 12 + 0 ≤ 960946 by omega, show slots + 30 + 0 ≤ 6218629 by omega⟩ (fun r9 H locs e9 hJ hD hS => ?_)
        subst e9
        rw [show kr_pA (kr_pA A q (nI sm)) q (nI sm) = kr_pA A q (nI sm) from kr_pA_pA hw hx0 hq] at hJ hD
        have hPc : va_P D vwCl (kr_W0 cy h a N L (kr_pA A q (nI sm))) H := kr_Pl hJ
        rw [show kr_gw (kr_pA A q (nI sm)) q (nI sm) = -1 from kr_pA_gw hw hx0 hq]
        refine lv_iconst (v := -1) hx hb dL_law_1148 (by decide) ?_
        refine lv_icmp_ne (tgt := 1162) hx hb dL_law_1149 (by decide) (fun c1149 => absurd rfl c1149) (fun c1149 => ?_)
        refine lv_aload_n hx hb dL_law_1152 rfl (lv_at hl 4 rfl) ?_
        refine kr_vL (n := 0) (As := []) (rest := []) ⟨hx, hb, hml, hown, hts⟩ (c_X0_digest l D cy h a N L (kr_pA A q (nI sm)) hwP) kg_RL_78 ⟨rfl, rfl⟩ (by decide +kernel) ⟨Nat.le_of_ble_eq_true rfl, Nat.le_of_ble_eq_true rfl⟩ (kr_pv0 hPc hK0) rfl hl.1 rfl (Nat.le_of_ble_eq_true rfl) dL_law_1153 ⟨show cells + 12 + 0 ≤ 960946 by omega, show slots + 30 + 0 ≤ 6218629 by omega⟩ (fun r9 e9 => ?_)
        subst e9
        refine lv_lload hx hb dL_law_1156 (lv_at hl 0 rfl) ?_
        refine W.lcmp hx hb dL_law_1158 ?_
        refine lv_if_eq (tgt := 1164) hx hb dL_law_1159 (by decide) (fun c1159 => ?_) (fun c1159 => absurd (kr_lg _) c1159)
        exact kk ad2 (kr_pA A q (nI sm)) _ _ _ hwP hxP hJ hD hS (lv_sub hl [3, 4, 5, 6] rfl)
    · have hp9 : p9 < kr_pr' A q (nI sm) := kr_lt (a := p9) (b := kr_pr' A q (nI sm)) (by omega) (by omega) c1089
      obtain ⟨e6, j, hj, ej, hgo⟩ := kr_pA_6 (ld := nI sm) hw hx0 hq hp9
      have ek : (kr_pA A q (nI sm)) 6 (5 * q + p9) = nI j := e6.trans ej
      refine lv_aload_n hx hb dL_law_1092 rfl (lv_at hl 4 rfl) ?_
      refine lv_aload_n hx hb dL_law_1093 rfl (lv_at hl 4 rfl) ?_
      refine lv_iload hx hb dL_law_1094 (lv_at hl 10 rfl) ?_
      refine lv_iload hx hb dL_law_1096 (lv_at hl 0 rfl) ?_
      refine kr_vI (n := 2) (As := [.int (nI q), .int (nI p9)]) (rest := [.ref h]) ⟨hx, hb, hml, hown, hts⟩ (c_X0_knotOf l D cy h a N L (kr_pA A q (nI sm)) q p9 hwP hq (by omega)) kg_RL_146 ⟨rfl, rfl⟩ (by decide +kernel) ⟨Nat.le_of_ble_eq_true rfl, Nat.le_of_ble_eq_true rfl⟩ (kr_pv0 hPc hK0) rfl hl.1 rfl (Nat.le_of_ble_eq_true rfl) dL_law_1098 ⟨show cells + 12 + 0 ≤ 960946 by omega, show slots + 30 + 0 ≤ 6218629 by omega⟩ (fun r9 e9 => ?_)
      subst e9
      rw [ek]
      refine lv_iload hx hb dL_law_1101 (lv_at hl 2 rfl) ?_
      refine kr_vI (n := 2) (As := [.int (nI j), .int (nI sm)]) (rest := []) ⟨hx, hb, hml, hown, hts⟩ (c_X0_formOf l D cy h a N L (kr_pA A q (nI sm)) j (nI sm) hwP hj hld) kg_RL_106 ⟨rfl, rfl⟩ (by decide +kernel) ⟨Nat.le_of_ble_eq_true rfl, Nat.le_of_ble_eq_true rfl⟩ (kr_pv0 hPc hK0) rfl hl.1 rfl (Nat.le_of_ble_eq_true rfl) dL_law_1103 ⟨show cells + 12 + 0 ≤ 960946 by omega, show slots + 30 + 0 ≤ 6218629 by omega⟩ (fun r9 e9 => ?_)
      subst e9
      rw [show kr_fm (kr_pA A q (nI sm)) (nI sm) 16 (nI j) = nI j from (kr_fm_cg (A := A) rfl rfl 16 _).trans (kr_fm_no hgo 16)]
      refine lv_aload_n hx hb dL_law_1106 rfl (lv_at hl 4 rfl) ?_
      refine lv_iload hx hb dL_law_1107 (lv_at hl 10 rfl) ?_
      refine lv_iload hx hb dL_law_1109 (lv_at hl 0 rfl) ?_
      refine kr_vI (n := 2) (As := [.int (nI q), .int (nI p9)]) (rest := [.int (nI j)]) ⟨hx, hb, hml, hown, hts⟩ (c_X0_knotOf l D cy h a N L (kr_pA A q (nI sm)) q p9 hwP hq (by omega)) kg_RL_146 ⟨rfl, rfl⟩ (by decide +kernel) ⟨Nat.le_of_ble_eq_true rfl, Nat.le_of_ble_eq_true rfl⟩ (kr_pv0 hPc hK0) rfl hl.1 rfl (Nat.le_of_ble_eq_true rfl) dL_law_1111 ⟨show cells + 12 + 0 ≤ 960946 by omega, show slots + 30 + 0 ≤ 6218629 by omega⟩ (fun r9 e9 => ?_)
      subst e9
      rw [ek]
      refine lv_icmp_eq (tgt := 1119) hx hb dL_law_1114 (by decide) (fun c1114 => ?_) (fun c1114 => absurd rfl c1114)
      refine lv_iinc (v := nI (p9 + 1)) (lv' := [(20, .int (nI (p9 + 1))), (19, .int (kr_gw A q (nI sm))), (18, .int (nI sm)), (0, .ref b), (1, .ref h), (2, .ref g), (3, .int (nI t)), (4, .int x), (5, .long dg), (8, .int (nI ld)), (11, .int (nI q)), (12, .int (nI (kr_rc A q)))]) hx hb dL_law_1119 hl (k := 0) rfl (kr_inc _) (by decide) rfl (fun ls hl => ?_)
      refine lv_goto (tgt := 1081) hx hb dL_law_1122 (by decide) ?_
      exact ih (p9 + 1) ls (show p9 + 1 ≤ kr_pr' A q (nI sm) by omega) (by show kr_pr' A q (nI sm) - (p9 + 1) < kr_pr' A q (nI sm) - p9; omega) (lv_sub hl [0, 1, 2, 3, 4, 5, 6, 7, 8, 9, 10, 11] rfl)
  · rcases kr_gw_kn (ld := nI sm) hr9 with hg | ⟨gg, hgg, hg⟩
    · have hpv : kr_pr' A q (nI sm) = kr_rc A q := by unfold kr_pr'; rw [if_pos hg]
      rw [hg] at hl
      refine lv_iload hx hb dL_law_1053 (lv_at hl 0 rfl) ?_
      refine lv_if_ge (tgt := 1063) hx hb dL_law_1055 (by decide) (fun c1055 => absurd c1055 (by decide)) (fun c1055 => ?_)
      refine lv_iload hx hb dL_law_1058 (lv_at hl 10 rfl) ?_
      refine lv_goto (tgt := 1065) hx hb dL_law_1060 (by decide) ?_
      refine lv_icmp_eq (tgt := 1070) hx hb dL_law_1065 (by decide) (fun c1065 => ?_) (fun c1065 => absurd (by rw [hpv]) c1065)
      exact key1070
    · have hpv : kr_pr' A q (nI sm) = gg := by unfold kr_pr'; rw [hg, if_neg (kr_kn_ne (by omega)), kr_ix_nI (by omega)]
      rw [hg] at hl
      refine lv_iload hx hb dL_law_1053 (lv_at hl 0 rfl) ?_
      refine lv_if_ge (tgt := 1063) hx hb dL_law_1055 (by decide) (fun c1055 => ?_) (fun c1055 => absurd (nI_pos' (by omega)) c1055)
      refine lv_iload hx hb dL_law_1063 (lv_at hl 0 rfl) ?_
      refine lv_icmp_eq (tgt := 1070) hx hb dL_law_1065 (by decide) (fun c1065 => ?_) (fun c1065 => absurd (by rw [hpv]) c1065)
      exact key1070
