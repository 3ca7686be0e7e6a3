theorem kr_lg (x : Int64) : lg_cmp x x = 0 := by simp [lg_cmp]
/-- the best knot at a place -/
theorem kr_bkO {N L : Nat} {A : Nat → Nat → Int32} {q pl : Nat} (hw : kr_wf N L A) (hq : q < L) (hp : pl < kr_rc A q) (hcn : 0 < kr_cn A (kr_kd pl) N) : ∃ j, j < N ∧ A 0 j = kr_kd pl ∧ kr_bk A N q pl = nI j ∧ ∀ k, k < N → A 0 k = kr_kd pl → (kr_hu (kr_rA A (5 * q + pl) k) q).toInt < (kr_hu (kr_rA A (5 * q + pl) j) q).toInt ∨ (kr_hu (kr_rA A (5 * q + pl) k) q).toInt = (kr_hu (kr_rA A (5 * q + pl) j) q).toInt ∧ kr_rk A j N ≤ kr_rk A k N := by
  rcases kr_bs_ok (A := A) (N := N) (q := q) (kd := kr_kd pl) (w := fun k => kr_hu (kr_rA A (5 * q + pl) k) q) (z0 := nI pl) hw.1 (fun k => (kr_lu_rA k hw hq hp).symm) (fun k => kr_hu_nn q) (kr_cn A (kr_kd pl) N) 0 (-1) (-1) (by omega) (Or.inl ⟨rfl, rfl, rfl⟩) with ⟨-, h⟩ | ⟨g', j, h1, h2, -, h3, -, h5⟩
  · omega
  · exact ⟨j, h1, h2, h3, fun k hk hk0 => h5 k hk hk0 trivial⟩
theorem kr_kdc {N L : Nat} {A : Nat → Nat → Int32} (hx : kr_wx N L A) (hN2 : 2 ≤ N) (pl : Nat) : 0 < kr_cn A (kr_kd pl) N := by
  by_cases h : nI pl = 0
  · have := kr_rk_cn (A := A) (N := N) (k := 1) (by omega)
    rw [hx.2.1 (by omega)] at this
    rw [show kr_kd pl = 1 from if_pos h]; omega
  · have := kr_rk_cn (A := A) (N := N) (k := 0) (by omega)
    rw [hx.1 (by omega)] at this
    rw [show kr_kd pl = 0 from if_neg h]; omega
theorem kr_kd01 (pl : Nat) : kr_kd pl = 0 ∨ kr_kd pl = 1 := by
  unfold kr_kd; split
  · exact Or.inr rfl
  · exact Or.inl rfl
theorem kg_RL_149 : GoodIn kr_all (wsV RL 149 RX0 yX0_bestKnot (Cond.code yX0_bestKnot cX0_bestKnot 10 (some .int) :: kr_all)) := kr_gV kq_358 kq_359 kq_360 kq_25 kq_361
theorem kr_kdN {pl : Nat} (h : pl < 2 ^ 31) : kr_kd pl = if pl = 0 then 1 else 0 := by
  unfold kr_kd
  by_cases e : pl = 0
  · rw [if_pos e, if_pos (by rw [e]; rfl)]
  · rw [if_neg e, if_neg (show ¬ nI pl = 0 from fun w => e ((nI_eq (b := 0) h (by decide)).mp w))]
theorem kg_RL_78 : GoodIn kr_all (wsV RL 78 RX0 yX0_digest (Cond.code yX0_digest cX0_digest 4 (some .long) :: kr_all)) := kr_gV kq_367 kq_368 kq_369 kq_25 kq_370
set_option maxHeartbeats 4000000 in
set_option maxRecDepth 100000 in
theorem law_best {p : Program} {l : Launch} {e : Env} {s : State} {m : MethodId} {below : List Frame} {meth : Method} {c : Code} {ls : Array Slot} {D : va_G} {cy cz : ClassId} {h g b N L t ld mo q : Nat} {a : Nat → Nat} {ad : Nat → Nat → Nat} {A : Nat → Nat → Int32} {x : Int32} {dg : Int64} {H : Heap} {locs : List Loc} {cells slots : Nat} {Q : State → Prop} (hx : p.tables.exec = Jvm.exec) (hb : c.code = cL_law) (hml : c.maxLocals = 22) (hts : ∀ w ∈ kr_all, w.before #[Value.ref b] s = true) (hown : s.vm.findClass RL = some m.cls) (hK : va_K D vwCl [(cy, .int), (cz, .array .int)] s) (hw : kr_wf N L A) (hx0 : kr_wx N L A) (hN2 : 2 ≤ N) (hL1 : 1 ≤ L) (hJ : va_P D vwCl (kr_JW cy cz h a g ad N L A) H) (hc9 : cells ≤ 5000) (hs9 : slots ≤ 50000) (hdg : kr_dg N L A = dg) (hq : q < L) (hr0 : 0 < kr_rc A q) (hD : va_D (kr_new s) (kr_JW cy cz h a g ad N L A)) (hS : va_S (kr_new s) s.heap H locs) (hl : lv_has ls 22 [(0, .ref b), (1, .ref h), (2, .ref g), (3, .int (nI t)), (4, .int x), (5, .long dg), (8, .int (nI ld)), (11, .int (nI q)), (12, .int (nI (kr_rc A q)))]) (kk : ∀ (H : Heap) (locs : List Loc) (ls : Array Slot), va_P D vwCl (kr_JW cy cz h a g ad N L A) H → va_D (kr_new s) (kr_JW cy cz h a g ad N L A) → va_S (kr_new s) s.heap H locs → lv_has ls 22 [(0, .ref b), (1, .ref h), (2, .ref g), (3, .int (nI t)), (4, .int x), (5, .long dg), (8, .int (nI ld)), (11, .int (nI q)), (12, .int (nI (kr_rc A q)))] → W p l e room_1 s m #[Value.ref b] below meth c H locs cells slots Q (F0 m 1003 ls [])) : W p l e room_1 s m #[Value.ref b] below meth c H locs cells slots Q (F0 m 844 ls []) := by
  have hN := hw.1
  have hL := hw.2.1
  have hK0 : va_K D vwCl [(cy, .int)] s := hK.sub [0] rfl
  have hPc : va_P D vwCl (kr_W0 cy h a N L A) H := kr_Pl hJ
  have hP : va_P D vwCl (kr_SW cy cz g ad N L A) H := kr_Pr hJ
  have hr9 := (hw.rc hq).1
  have hA : ∀ q : Nat, s.heap.size ≤ q → kr_new s q := fun q h9 => h9
  refine lv_iload hx hb dL_law_844 (lv_at hl 4 rfl) ?_
  refine lv_bipush (v := 6) hx hb dL_law_846 (by decide) ?_
  refine lv_ishr hx hb dL_law_848 ?_
  refine lv_iload hx hb dL_law_849 (lv_at hl 8 rfl) ?_
  refine kr_sI (n := 2) (As := [.int (x >>> (6 &&& 31)), .int (nI (kr_rc A q))]) (rest := []) ⟨hx, hb, hml, hown, hts⟩ (c_L_below l (x >>> (6 &&& 31)) (kr_rc A q) (by omega) (by omega)) kg_RL_18 ⟨rfl, rfl⟩ (by decide +kernel) ⟨Nat.le_of_ble_eq_true rfl, Nat.le_of_ble_eq_true rfl⟩ ⟨kr_blT, fun U hU hW => ⟨rfl, trivial⟩⟩ rfl hl.1 rfl (Nat.le_of_ble_eq_true rfl) dL_law_851 ⟨show cells + 0 ≤ 960946 by omega, show slots + 0 ≤ 6218629 by omega⟩ (fun r9 e9 => ?_)
  obtain ⟨pl, hpl, rfl⟩ := e9
  have hcn := kr_kdc hx0 hN2 pl
  have hcl := kr_cn_le (A := A) (kd := kr_kd pl) N
  have hkd := kr_kd01 pl
  obtain ⟨kb, hkb, hkb0, ekb, hbest⟩ := kr_bkO hw hq hpl hcn
  obtain ⟨k0, hk0, ek0⟩ := hw.tk hq hpl
  have hk00 := (hx0.2.2.2 q hq pl hpl).2 k0 hk0 ek0
  refine lv_istore (lv' := [(13, .int (nI pl)), (0, .ref b), (1, .ref h), (2, .ref g), (3, .int (nI t)), (4, .int x), (5, .long dg), (8, .int (nI ld)), (11, .int (nI q)), (12, .int (nI (kr_rc A q)))]) hx hb dL_law_854 hl (by decide) rfl (fun ls hl => ?_)
  refine lv_aload_n hx hb dL_law_856 rfl (lv_at hl 2 rfl) ?_
  refine lv_iload hx hb dL_law_857 (lv_at hl 8 rfl) ?_
  refine lv_iload hx hb dL_law_859 (lv_at hl 0 rfl) ?_
  refine kr_vI (n := 2) (As := [.int (nI q), .int (nI pl)]) (rest := []) ⟨hx, hb, hml, hown, hts⟩ (c_X0_bestKnot l D cy h a N L A q pl hw hq hpl) kg_RL_149 ⟨rfl, rfl⟩ (by decide +kernel) ⟨Nat.le_of_ble_eq_true rfl, Nat.le_of_ble_eq_true rfl⟩ (kr_pv0 hPc hK0) rfl hl.1 rfl (Nat.le_of_ble_eq_true rfl) dL_law_861 ⟨show cells + 0 ≤ 960946 by omega, show slots + 0 ≤ 6218629 by omega⟩ (fun r9 e9 => ?_)
  subst e9
  rw [ekb]
  refine lv_istore (lv' := [(14, .int (nI kb)), (13, .int (nI pl)), (0, .ref b), (1, .ref h), (2, .ref g), (3, .int (nI t)), (4, .int x), (5, .long dg), (8, .int (nI ld)), (11, .int (nI q)), (12, .int (nI (kr_rc A q)))]) hx hb dL_law_864 hl (by decide) rfl (fun ls hl => ?_)
  refine lv_aload_n hx hb dL_law_866 rfl (lv_at hl 3 rfl) ?_
  refine kr_jn (pcJ := 877) (stJ := [.ref h]) (fun v => v = kr_kd pl) (fun v hv => ?_) (fun kJ => ?_)
  · subst hv
    refine lv_iload hx hb dL_law_877 (lv_at hl 6 rfl) ?_
    refine lv_bipush (v := 7) hx hb dL_law_879 (by decide) ?_
    refine lv_ishr hx hb dL_law_881 ?_
    refine lv_aload_n hx hb dL_law_882 rfl (lv_at hl 3 rfl) ?_
    refine kr_jn (pcJ := 893) (stJ := [.ref h, .int (x >>> (7 &&& 31)), .int (kr_kd pl), .ref h]) (fun v => v = kr_kd pl) (fun v hv => ?_) (fun kJ => ?_)
    · subst hv
      refine kr_vI (n := 1) (As := [.int (kr_kd pl)]) (rest := [.int (x >>> (7 &&& 31)), .int (kr_kd pl), .ref h]) ⟨hx, hb, hml, hown, hts⟩ (c_X0_knotsOf l D cy h a N L A (kr_kd pl) hN hkd) kg_RL_85 ⟨rfl, rfl⟩ (by decide +kernel) ⟨Nat.le_of_ble_eq_true rfl, Nat.le_of_ble_eq_true rfl⟩ (kr_pv0 hPc hK0) rfl hl.1 rfl (Nat.le_of_ble_eq_true rfl) dL_law_893 ⟨show cells + 0 ≤ 960946 by omega, show slots + 0 ≤ 6218629 by omega⟩ (fun r9 e9 => ?_)
      subst e9
      refine kr_sI (n := 2) (As := [.int (x >>> (7 &&& 31)), .int (nI (kr_cn A (kr_kd pl) N))]) (rest := [.int (kr_kd pl), .ref h]) ⟨hx, hb, hml, hown, hts⟩ (c_L_below l (x >>> (7 &&& 31)) (kr_cn A (kr_kd pl) N) (by omega) (by omega)) kg_RL_18 ⟨rfl, rfl⟩ (by decide +kernel) ⟨Nat.le_of_ble_eq_true rfl, Nat.le_of_ble_eq_true rfl⟩ ⟨kr_blT, fun U hU hW => ⟨rfl, trivial⟩⟩ rfl hl.1 rfl (Nat.le_of_ble_eq_true rfl) dL_law_896 ⟨show cells + 0 ≤ 960946 by omega, show slots + 0 ≤ 6218629 by omega⟩ (fun r9 e9 => ?_)
      obtain ⟨jo, hjo, rfl⟩ := e9
      obtain ⟨ko, hko, hko0, hkor⟩ := kr_rk_on hjo
      have ekw : kr_kw A N (kr_kd pl) (nI jo) N 0 = nI ko := by rw [← hkor]; exact kr_kw_at hN hko hko0
      refine kr_vI (n := 2) (As := [.int (kr_kd pl), .int (nI jo)]) (rest := []) ⟨hx, hb, hml, hown, hts⟩ (c_X0_knotAt l D cy h a N L A (kr_kd pl) (nI jo) hN hkd (by rw [ekw]; exact kr_kn_ne (by omega))) kg_RL_89 ⟨rfl, rfl⟩ (by decide +kernel) ⟨Nat.le_of_ble_eq_true rfl, Nat.le_of_ble_eq_true rfl⟩ (kr_pv0 hPc hK0) rfl hl.1 rfl (Nat.le_of_ble_eq_true rfl) dL_law_899 ⟨show cells + 0 ≤ 960946 by omega, show slots + 0 ≤ 6218629 by omega⟩ (fun r9 e9 => ?_)
      subst e9
      rw [ekw]
      have hw1 : kr_wf N L (kr_rA A (5 * q + pl) kb) := kr_wf_r hw hkb
      have hx1 : kr_wx N L (kr_rA A (5 * q + pl) kb) := kr_wx_r hw hx0 hq hpl hkb (hkb0.trans (kr_kdN (by omega)))
      have hw2 : kr_wf N L (kr_rA A (5 * q + pl) ko) := kr_wf_r hw hko
      have hx2 : kr_wx N L (kr_rA A (5 * q + pl) ko) := kr_wx_r hw hx0 hq hpl hko (hko0.trans (kr_kdN (by omega)))
      obtain ⟨u1, hu1, eu1, -⟩ := kr_huN hw1 hx1 hq
      obtain ⟨u2, hu2, eu2, -⟩ := kr_huN hw2 hx2 hq
      have hb2 := hbest ko hko hko0
      rw [eu1, eu2, nI_toInt (by omega), nI_toInt (by omega)] at hb2
      refine lv_istore (lv' := [(15, .int (nI ko)), (14, .int (nI kb)), (13, .int (nI pl)), (0, .ref b), (1, .ref h), (2, .ref g), (3, .int (nI t)), (4, .int x), (5, .long dg), (8, .int (nI ld)), (11, .int (nI q)), (12, .int (nI (kr_rc A q)))]) hx hb dL_law_902 hl (by decide) rfl (fun ls hl => ?_)
      refine lv_aload_n hx hb dL_law_904 rfl (lv_at hl 4 rfl) ?_
      refine lv_iload hx hb dL_law_905 (lv_at hl 10 rfl) ?_
      refine lv_iload hx hb dL_law_907 (lv_at hl 2 rfl) ?_
      refine lv_iload hx hb dL_law_909 (lv_at hl 1 rfl) ?_
      refine kr_jwI (n := 3) (As := [.int (nI q), .int (nI pl), .int (nI kb)]) (rest := []) ⟨hx, hb, hml, hown, hts⟩ (c_X0_retie l D cy h a N L A _ q pl kb hw hq hpl hkb hkb0) kg_RL_50 ⟨rfl, rfl⟩ (by decide +kernel) ⟨Nat.le_of_ble_eq_true rfl, Nat.le_of_ble_eq_true rfl⟩ hJ hK hD hS hA rfl hl.1 rfl (Nat.le_of_ble_eq_true rfl) dL_law_911 ⟨show cells + 0 ≤ 960946 by omega, show slots + 0 ≤ 6218629 by omega⟩ (fun r9 H locs e9 hJ hD hS => ?_)
      subst e9
      have hPc : va_P D vwCl (kr_W0 cy h a N L (kr_rA A (5 * q + pl) kb)) H := kr_Pl hJ
      rw [ek0]
      refine lv_istore (lv' := [(16, .int (nI k0)), (15, .int (nI ko)), (14, .int (nI kb)), (13, .int (nI pl)), (0, .ref b), (1, .ref h), (2, .ref g), (3, .int (nI t)), (4, .int x), (5, .long dg), (8, .int (nI ld)), (11, .int (nI q)), (12, .int (nI (kr_rc A q)))]) hx hb dL_law_914 hl (by decide) rfl (fun ls hl => ?_)
      refine lv_aload_n hx hb dL_law_916 rfl (lv_at hl 5 rfl) ?_
      refine lv_iload hx hb dL_law_917 (lv_at hl 11 rfl) ?_
      refine kr_vI (n := 1) (As := [.int (nI q)]) (rest := []) ⟨hx, hb, hml, hown, hts⟩ (c_X0_holdsUpTo l D cy h a N L (kr_rA A (5 * q + pl) kb) q hw1 hq) kg_RL_127 ⟨rfl, rfl⟩ (by decide +kernel) ⟨Nat.le_of_ble_eq_true rfl, Nat.le_of_ble_eq_true rfl⟩ (kr_pv0 hPc hK0) rfl hl.1 rfl (Nat.le_of_ble_eq_true rfl) dL_law_919 ⟨show cells + 0 ≤ 960946 by omega, show slots + 0 ≤ 6218629 by omega⟩ (fun r9 e9 => ?_)
      subst e9
      rw [eu1]
      refine lv_istore (lv' := [(17, .int (nI u1)), (16, .int (nI k0)), (15, .int (nI ko)), (14, .int (nI kb)), (13, .int (nI pl)), (0, .ref b), (1, .ref h), (2, .ref g), (3, .int (nI t)), (4, .int x), (5, .long dg), (8, .int (nI ld)), (11, .int (nI q)), (12, .int (nI (kr_rc A q)))]) hx hb dL_law_922 hl (by decide) rfl (fun ls hl => ?_)
      refine lv_aload_n hx hb dL_law_924 rfl (lv_at hl 6 rfl) ?_
      refine lv_iload hx hb dL_law_925 (lv_at hl 12 rfl) ?_
      refine lv_iload hx hb dL_law_927 (lv_at hl 4 rfl) ?_
      refine lv_iload hx hb dL_law_929 (lv_at hl 2 rfl) ?_
      refine kr_jwI (n := 3) (As := [.int (nI q), .int (nI pl), .int (nI ko)]) (rest := []) ⟨hx, hb, hml, hown, hts⟩ (c_X0_retie l D cy h a N L (kr_rA A (5 * q + pl) kb) _ q pl ko hw1 hq hpl hko hko0) kg_RL_50 ⟨rfl, rfl⟩ (by decide +kernel) ⟨Nat.le_of_ble_eq_true rfl, Nat.le_of_ble_eq_true rfl⟩ hJ hK hD hS hA rfl hl.1 rfl (Nat.le_of_ble_eq_true rfl) dL_law_931 ⟨show cells + 0 ≤ 960946 by omega, show slots + 0 ≤ 6218629 by omega⟩ (fun r9 H locs e9 hJ hD hS => ?_)
      subst e9
      rw [show kr_rA (kr_rA A (5 * q + pl) kb) (5 * q + pl) ko = kr_rA A (5 * q + pl) ko from kr_rA_tw _ _ _] at hJ hD
      have hPc : va_P D vwCl (kr_W0 cy h a N L (kr_rA A (5 * q + pl) ko)) H := kr_Pl hJ
      rw [show (kr_rA A (5 * q + pl) kb) 6 (5 * q + pl) = nI kb from pk_us]
      refine lv_iload hx hb dL_law_934 (lv_at hl 3 rfl) ?_
      refine lv_icmp_ne (tgt := 1001) hx hb dL_law_936 (by decide) (fun c936 => absurd rfl c936) (fun c936 => ?_)
      refine kr_cut (pcJ := 976) (stJ := []) ?_ (fun key976 => ?_)
      · refine lv_aload_n hx hb dL_law_976 rfl (lv_at hl 6 rfl) ?_
        refine lv_iload hx hb dL_law_977 (lv_at hl 12 rfl) ?_
        refine lv_iload hx hb dL_law_979 (lv_at hl 4 rfl) ?_
        refine lv_iload hx hb dL_law_981 (lv_at hl 1 rfl) ?_
        refine kr_jwI (n := 3) (As := [.int (nI q), .int (nI pl), .int (nI k0)]) (rest := []) ⟨hx, hb, hml, hown, hts⟩ (c_X0_retie l D cy h a N L (kr_rA A (5 * q + pl) ko) _ q pl k0 hw2 hq hpl hk0 (hk00.trans (kr_kdN (by omega)).symm)) kg_RL_50 ⟨rfl, rfl⟩ (by decide +kernel) ⟨Nat.le_of_ble_eq_true rfl, Nat.le_of_ble_eq_true rfl⟩ hJ hK hD hS hA rfl hl.1 rfl (Nat.le_of_ble_eq_true rfl) dL_law_983 ⟨show cells + 0 ≤ 960946 by omega, show slots + 0 ≤ 6218629 by omega⟩ (fun r9 H locs e9 hJ hD hS => ?_)
        subst e9
        rw [show kr_rA (kr_rA A (5 * q + pl) ko) (5 * q + pl) k0 = A from (kr_rA_tw _ _ _).trans (kr_rA_id ek0)] at hJ hD
        have hPc : va_P D vwCl (kr_W0 cy h a N L A) H := kr_Pl hJ
        rw [show (kr_rA A (5 * q + pl) ko) 6 (5 * q + pl) = nI ko from pk_us]
        refine lv_iload hx hb dL_law_986 (lv_at hl 2 rfl) ?_
        refine lv_icmp_ne (tgt := 1001) hx hb dL_law_988 (by decide) (fun c988 => absurd rfl c988) (fun c988 => ?_)
        refine lv_aload_n hx hb dL_law_991 rfl (lv_at hl 6 rfl) ?_
        refine kr_vL (n := 0) (As := []) (rest := []) ⟨hx, hb, hml, hown, hts⟩ (c_X0_digest l D cy h a N L A hw) kg_RL_78 ⟨rfl, rfl⟩ (by decide +kernel) ⟨Nat.le_of_ble_eq_true rfl, Nat.le_of_ble_eq_true rfl⟩ (kr_pv0 hPc hK0) rfl hl.1 rfl (Nat.le_of_ble_eq_true rfl) dL_law_992 ⟨show cells + 0 ≤ 960946 by omega, show slots + 0 ≤ 6218629 by omega⟩ (fun r9 e9 => ?_)
        subst e9
        rw [hdg]
        refine lv_lload hx hb dL_law_995 (lv_at hl 10 rfl) ?_
        refine W.lcmp hx hb dL_law_997 ?_
        refine lv_if_eq (tgt := 1003) hx hb dL_law_998 (by decide) (fun c998 => ?_) (fun c998 => absurd (kr_lg _) c998)
        exact kk H locs _ hJ hD hS (lv_sub hl [5, 6, 7, 8, 9, 10, 11, 12, 13] rfl)
      · refine lv_aload_n hx hb dL_law_939 rfl (lv_at hl 6 rfl) ?_
        refine lv_iload hx hb dL_law_940 (lv_at hl 12 rfl) ?_
        refine kr_vI (n := 1) (As := [.int (nI q)]) (rest := []) ⟨hx, hb, hml, hown, hts⟩ (c_X0_holdsUpTo l D cy h a N L (kr_rA A (5 * q + pl) ko) q hw2 hq) kg_RL_127 ⟨rfl, rfl⟩ (by decide +kernel) ⟨Nat.le_of_ble_eq_true rfl, Nat.le_of_ble_eq_true rfl⟩ (kr_pv0 hPc hK0) rfl hl.1 rfl (Nat.le_of_ble_eq_true rfl) dL_law_942 ⟨show cells + 0 ≤ 960946 by omega, show slots + 0 ≤ 6218629 by omega⟩ (fun r9 e9 => ?_)
        subst e9
        rw [eu2]
        refine lv_iload hx hb dL_law_945 (lv_at hl 0 rfl) ?_
        refine lv_icmp_gt (tgt := 1001) hx hb dL_law_947 (by decide) (fun c947 => absurd c947 (nI_nlt (by omega) (by omega))) (fun c947 => ?_)
        refine lv_aload_n hx hb dL_law_950 rfl (lv_at hl 6 rfl) ?_
        refine lv_iload hx hb dL_law_951 (lv_at hl 12 rfl) ?_
        refine kr_vI (n := 1) (As := [.int (nI q)]) (rest := []) ⟨hx, hb, hml, hown, hts⟩ (c_X0_holdsUpTo l D cy h a N L (kr_rA A (5 * q + pl) ko) q hw2 hq) kg_RL_127 ⟨rfl, rfl⟩ (by decide +kernel) ⟨Nat.le_of_ble_eq_true rfl, Nat.le_of_ble_eq_true rfl⟩ (kr_pv0 hPc hK0) rfl hl.1 rfl (Nat.le_of_ble_eq_true rfl) dL_law_953 ⟨show cells + 0 ≤ 960946 by omega, show slots + 0 ≤ 6218629 by omega⟩ (fun r9 e9 => ?_)
        subst e9
        rw [eu2]
        refine lv_iload hx hb dL_law_956 (lv_at hl 0 rfl) ?_
        refine lv_icmp_ne (tgt := 976) hx hb dL_law_958 (by decide) (fun c958 => ?_) (fun c958 => ?_)
        · exact key976
        · have huu : u2 = u1 := (nI_eq (by omega) (by omega)).mp c958
          refine lv_aload_n hx hb dL_law_961 rfl (lv_at hl 6 rfl) ?_
          refine lv_iload hx hb dL_law_962 (lv_at hl 2 rfl) ?_
          refine kr_vI (n := 1) (As := [.int (nI ko)]) (rest := []) ⟨hx, hb, hml, hown, hts⟩ (c_X0_rankOf l D cy h a N L (kr_rA A (5 * q + pl) ko) ko hN hko) kg_RL_95 ⟨rfl, rfl⟩ (by decide +kernel) ⟨Nat.le_of_ble_eq_true rfl, Nat.le_of_ble_eq_true rfl⟩ (kr_pv0 hPc hK0) rfl hl.1 rfl (Nat.le_of_ble_eq_true rfl) dL_law_964 ⟨show cells + 0 ≤ 960946 by omega, show slots + 0 ≤ 6218629 by omega⟩ (fun r9 e9 => ?_)
          subst e9
          rw [kr_rk_cg (A := A) (A' := kr_rA A (5 * q + pl) ko) rfl rfl rfl ko N]
          refine lv_aload_n hx hb dL_law_967 rfl (lv_at hl 6 rfl) ?_
          refine lv_iload hx hb dL_law_968 (lv_at hl 3 rfl) ?_
          refine kr_vI (n := 1) (As := [.int (nI kb)]) (rest := [.int (nI (kr_rk A ko N))]) ⟨hx, hb, hml, hown, hts⟩ (c_X0_rankOf l D cy h a N L (kr_rA A (5 * q + pl) ko) kb hN hkb) kg_RL_95 ⟨rfl, rfl⟩ (by decide +kernel) ⟨Nat.le_of_ble_eq_true rfl, Nat.le_of_ble_eq_true rfl⟩ (kr_pv0 hPc hK0) rfl hl.1 rfl (Nat.le_of_ble_eq_true rfl) dL_law_970 ⟨show cells + 0 ≤ 960946 by omega, show slots + 0 ≤ 6218629 by omega⟩ (fun r9 e9 => ?_)
          subst e9
          rw [kr_rk_cg (A := A) (A' := kr_rA A (5 * q + pl) ko) rfl rfl rfl kb N]
          have hrl := kr_rk_le (A := A) (k := ko) N
          refine lv_icmp_lt (tgt := 1001) hx hb dL_law_973 (by decide) (fun c973 => absurd c973 (nI_nlt (by omega) (by omega))) (fun c973 => ?_)
          exact key976
    · refine lv_iload hx hb dL_law_883 (lv_at hl 1 rfl) ?_
      refine lv_if_ne (tgt := 892) hx hb dL_law_885 (by decide) (fun c885 => ?_) (fun c885 => ?_)
      · refine lv_iconst (v := 0) hx hb dL_law_892 (by decide) ?_
        exact kJ _ (if_neg c885).symm
      · refine lv_iconst (v := 1) hx hb dL_law_888 (by decide) ?_
        refine lv_goto (tgt := 893) hx hb dL_law_889 (by decide) ?_
        exact kJ _ (if_pos c885).symm
  · refine lv_iload hx hb dL_law_867 (lv_at hl 1 rfl) ?_
    refine lv_if_ne (tgt := 876) hx hb dL_law_869 (by decide) (fun c869 => ?_) (fun c869 => ?_)
    · refine lv_iconst (v := 0) hx hb dL_law_876 (by decide) ?_
      exact kJ _ (if_neg c869).symm
    · refine lv_iconst (v := 1) hx hb dL_law_872 (by decide) ?_
      refine lv_goto (tgt := 877) hx hb dL_law_873 (by decide) ?_
      exact kJ _ (if_pos c869).symm
