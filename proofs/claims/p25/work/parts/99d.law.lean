/-! the law, whole -/
def zQf : Option zV → zMem → Prop := fun r μ' => r = some (zI 1) ∧ μ'.1.1 ≤ 600008 ∧ μ'.1.2 ≤ 7302249
theorem qEr_u {v : Int → Int} {p a x y : Int} (h : qEr v p a x) (h' : qEr v p a y) (ha : 0 ≤ a) : x = y := by
  unfold qEr at h h'
  rcases h with ⟨h1, h2⟩ | ⟨h1, h2, h3, h4, h5⟩
  · rcases h' with ⟨k1, k2⟩ | ⟨k1, k2, k3, k4, k5⟩
    · omega
    · exact absurd k4 (h2 y k1 k2 k3)
  · rcases h' with ⟨k1, k2⟩ | ⟨k1, k2, k3, k4, k5⟩
    · exact absurd h4 (k2 x h1 h2 h3)
    · rcases Int.lt_trichotomy x y with h9 | h9 | h9
      · exact absurd h4 (k5 x h1 h9)
      · exact h9
      · exact absurd k4 (h5 y k1 h9)
theorem on_some {B : Int} {v : Int → Int} (I : zInv B v) {i t x : Int} (hi : 0 ≤ i ∧ i < v 3) (h1 : v (230 + 4 * i + 1) = t) (hx : zFst (v 3) (fun j => v (230 + 4 * j + 1)) (fun j => v (230 + 4 * j + 2)) t (t + 1) x) : 0 ≤ x := by
  have h2 := I.2.2.2.2.2.1 i hi.1 hi.2
  have h3 := on_v I hi (by omega) (by omega) hx
  omega
theorem kW_ok {hi c : zC} {B : Int} {v : Int → Int} {tp : Option (Int → Int)} (hB : 0 ≤ B) (h : zG hi B v tp c ∨ ∃ v', zSo v v' ∧ zG hi (B + 60) v' (some v) c) : ∃ (v' : Int → Int) (t' : Option (Int → Int)), zSo v v' ∧ zG hi (B + 60) v' t' c ∧ (v' = v ∨ t' = some v) := by
  rcases h with h | ⟨v', h1, h2⟩
  · exact ⟨v, tp, zSo.rf, zG_up h (by omega), Or.inl rfl⟩
  · exact ⟨v', _, h1, h2, Or.inr rfl⟩
set_option maxRecDepth 10000 in
set_option maxHeartbeats 4000000 in
theorem lw_fin {n sl : Nat} {S : zSh} {hi : zC} {B : Int} {v : Int → Int} {P R : Int} (hS : zSok S) (hkd : zKd hi P R v) (hB6 : B ≤ 60000) (hn : n ≤ 600008) (hsl : sl ≤ 7302249) : ∀ k : Int, k ≤ P → ∀ (c : zC) (tp : Option (Int → Int)) (w7 w8 w9 w10 w11 w12 w13 w14 : Option zV), zG hi B v tp c → 0 ≤ k → zE 15 138 731 [some (zA 0), some (zA 8), some (zA 145), some (zA 146), some (zI P), some (zI R), some (zI k), w7, w8, w9, w10, w11, w12, w13, w14] [] ((n, sl), (S, c)) zQf := by
  have hP := hkd.1
  refine zind _ (fun k ih hN0 => ?_)
  intro c tp w7 w8 w9 w10 w11 w12 w13 w14 G h0
  have I := G.2.2.2.1
  have hI := I.1
  have hoB := I.2.2.1
  refine zl_ild6 I138_731 ?_
  refine zl_ild4 I138_733 ?_
  refine zr_ic_ge (t := 846) I138_735 rfl (fun h735 => ?_) (fun h735 => ?_)
  · refine zl_ald1 I138_846 ?_
    refine zl_ild4 I138_847 ?_
    refine zl_ild5 I138_849 ?_
    refine zr_callS I138_851 C10_91 ⟨rfl, rfl⟩ ⟨by simp, rfl, Nat.le_of_ble_eq_true rfl⟩ (l_fails (d := 7) hS G hB6 hkd.1.1 hkd.1.2.1) (fun v851 μ851 hv851 => ?_)
    obtain ⟨x851, c851, rfl, rfl, rfl, G⟩ := hv851
    dsimp only [Option.toList, List.cons_append, List.nil_append]
    refine zr_zret I138_854 rfl (Or.inr rfl) ?_
    exact ⟨rfl, hn, hsl⟩
  · refine zl_ald1 I138_738 ?_
    have hob := hoB k h0 (by omega)
    refine zr_callV I138_739 C10_9 ⟨rfl, rfl⟩ ⟨rfl, Nat.le_of_ble_eq_true rfl⟩ (Or.inl ⟨rfl, sT8 hS⟩) (k_fp (d := 8) hS G) (fun v739 μ739 hv739 => ?_)
    obtain ⟨c739, rfl, rfl, G⟩ := hv739
    dsimp only [Option.toList, List.cons_append, List.nil_append]
    refine zl_lst7 I138_742 ?_
    refine zl_ald1 I138_744 ?_
    refine zl_ild6 I138_745 ?_
    refine zr_callV I138_747 C10_63 ⟨rfl, rfl⟩ ⟨rfl, Nat.le_of_ble_eq_true rfl⟩ (Or.inl ⟨rfl, sT8 hS⟩) (k_owed (d := 8) hS G (by omega)) (fun v747 μ747 hv747 => ?_)
    obtain ⟨x747, c747, rfl, rfl, rfl, G⟩ := hv747
    dsimp only [Option.toList, List.cons_append, List.nil_append]
    refine zl_ist9 I138_750 ?_
    refine zl_ald1 I138_752 ?_
    refine zl_ild6 I138_753 ?_
    refine zr_bipush I138_755 ?_
    refine zr_callV I138_757 C10_38 ⟨rfl, rfl⟩ ⟨rfl, Nat.le_of_ble_eq_true rfl⟩ (Or.inl ⟨rfl, sT8 hS⟩) (k_earl (d := 8) hS G (by omega) (by omega)) (fun v757 μ757 hv757 => ?_)
    obtain ⟨x757, c757, rfl, rfl, hx757, G⟩ := hv757
    dsimp only [Option.toList, List.cons_append, List.nil_append]
    refine zl_ist10 I138_760 ?_
    refine zl_ald1 I138_762 ?_
    refine zl_ild6 I138_763 ?_
    refine zr_bipush I138_765 ?_
    refine zr_callV I138_767 C10_48 ⟨rfl, rfl⟩ ⟨rfl, Nat.le_of_ble_eq_true rfl⟩ (Or.inl ⟨rfl, sT8 hS⟩) (a_good (d := 8) hS G (by omega) (by omega)) (fun v767 μ767 hv767 => ?_)
    obtain ⟨x767, c767, rfl, rfl, h767⟩ := hv767
    dsimp only [Option.toList, List.cons_append, List.nil_append]
    refine zl_ist11 I138_770 ?_
    refine zl_ild9 I138_772 ?_
    refine zr_if_ne (t := 787) I138_774 rfl (fun h774 => ?_) (fun h774 => ?_)
    · obtain ⟨a1, a2, h9⟩ := h767.resolve_left (fun h9 => h774 h9.1)
      have e1 := qEr_u a2 hx757 (by omega)
      refine zl_ild11 I138_787 ?_
      refine zl_ild10 I138_789 ?_
      refine zr_ic_ne (t := 838) I138_791 rfl (fun h791 => absurd h791 (by omega)) (fun h791 => ?_)
      refine zl_ild10 I138_794 ?_
      refine zr_if_lt (t := 840) I138_796 rfl (fun h796 => ?_) (fun h796 => ?_)
      · have G := h9.elim (fun h8 => h8.2) (fun h8 => absurd h8.1 (by omega))
        refine zl_iinc6 I138_840 (by unfold zInR; omega) ?_
        refine zr_goto (t := 731) I138_843 rfl ?_
        exact ih (k + 1) (by omega) (by omega) _ _ _ _ _ _ _ _ _ _ G (by omega)
      · obtain ⟨s0, s01, v2, i9, s1, s2, ⟨s3, s4, s5⟩, G⟩ := h9.resolve_left (fun h8 => absurd h8.1 (by omega))
        have I2 := G.2.2.2.1
        refine zl_ald1 I138_799 ?_
        refine zl_ild6 I138_800 ?_
        refine zr_callV I138_802 C10_63 ⟨rfl, rfl⟩ ⟨rfl, Nat.le_of_ble_eq_true rfl⟩ (Or.inl ⟨rfl, sT8 hS⟩) (k_owed (d := 8) hS G (by omega)) (fun v802 μ802 hv802 => ?_)
        obtain ⟨x802, c802, rfl, rfl, rfl, G⟩ := hv802
        dsimp only [Option.toList, List.cons_append, List.nil_append]
        refine zl_ild9 I138_805 ?_
        refine zr_iconst I138_807 ?_
        refine zr_isub I138_808 (by unfold zInR; omega) ?_
        refine zr_ic_ne (t := 838) I138_809 rfl (fun h809 => absurd h809 (by omega)) (fun h809 => ?_)
        refine zl_ald1 I138_812 ?_
        refine zl_ild10 I138_813 ?_
        refine zr_callV I138_815 C10_54 ⟨rfl, rfl⟩ ⟨rfl, Nat.le_of_ble_eq_true rfl⟩ (Or.inl ⟨rfl, sT8 hS⟩) (k_onAir (d := 8) hS G (by omega)) (fun v815 μ815 hv815 => ?_)
        obtain ⟨x815, c815, rfl, rfl, hx815, G⟩ := hv815
        have e815 := on_some I2 (i := i9) ⟨s3, s4⟩ (s5.trans e1) hx815
        dsimp only [Option.toList, List.cons_append, List.nil_append]
        refine zr_if_lt (t := 838) I138_818 rfl (fun h818 => absurd h818 (by omega)) (fun h818 => ?_)
        refine zl_ald1 I138_821 ?_
        refine zr_callV I138_822 C10_87 ⟨rfl, rfl⟩ ⟨rfl, Nat.le_of_ble_eq_true rfl⟩ (Or.inl ⟨rfl, sT8 hS⟩) (a_undo (d := 8) hS G) (fun v822 μ822 hv822 => ?_)
        obtain ⟨x822, c822, rfl, rfl, hx822, G⟩ := hv822
        dsimp only [Option.toList, List.cons_append, List.nil_append]
        refine zr_if_lt (t := 838) I138_825 rfl (fun h825 => absurd h825 (by omega)) (fun h825 => ?_)
        refine zl_ald1 I138_828 ?_
        refine zr_callV I138_829 C10_9 ⟨rfl, rfl⟩ ⟨rfl, Nat.le_of_ble_eq_true rfl⟩ (Or.inl ⟨rfl, sT8 hS⟩) (k_fp (d := 8) hS G) (fun v829 μ829 hv829 => ?_)
        obtain ⟨c829, rfl, rfl, G⟩ := hv829
        dsimp only [Option.toList, List.cons_append, List.nil_append]
        refine zl_lld7 I138_832 ?_
        refine zr_lcmpG I138_834 (fun y834 hy834 => ?_)
        have hz := hy834.mpr rfl
        refine zr_if_eq (t := 840) I138_835 rfl (fun h835 => ?_) (fun h835 => absurd h835 (by omega))
        refine zl_iinc6 I138_840 (by unfold zInR; omega) ?_
        refine zr_goto (t := 731) I138_843 rfl ?_
        exact ih (k + 1) (by omega) (by omega) _ _ _ _ _ _ _ _ _ _ G (by omega)
    · obtain ⟨e1, G⟩ : x767 = -2 ∧ zG hi B v tp c767 := by
        rcases h767 with ⟨a1, a2, a3⟩ | ⟨a1, -⟩
        · exact ⟨a2, a3⟩
        · omega
      refine zl_ild11 I138_777 ?_
      refine zr_bipush I138_779 ?_
      refine zr_ic_eq (t := 840) I138_781 rfl (fun h781 => ?_) (fun h781 => absurd h781 (by omega))
      refine zl_iinc6 I138_840 (by unfold zInR; omega) ?_
      refine zr_goto (t := 731) I138_843 rfl ?_
      exact ih (k + 1) (by omega) (by omega) _ _ _ _ _ _ _ _ _ _ G (by omega)
set_option maxRecDepth 10000 in
set_option maxHeartbeats 4000000 in
theorem lw_tail {n sl L : Nat} {S : zSh} {hi c : zC} {B : Int} {v v9 : Int → Int} {t9 : Option (Int → Int)} {P R k q7 p8 n9 h13 : Int} {w14 : Option zV} {Q : Option zV → zMem → Prop} (hS : zSok S) (hS0 : (S 0).1 = 30 ∧ (S 0).2.1 = L) (hkd : zKd hi P R v) (hso : zSo v v9) (G : zG hi B v9 t9 c) (hv9 : v9 = v ∨ t9 = some v) (hn : 147 ≤ n) (hk : 0 ≤ k ∧ k < 20) (KK : ∀ (c' hi' : zC) (S' : zSh) (v2 : Int → Int) (tp2 : Option (Int → Int)) (w7 w8 w9 w10 w11 w12 w13 w14 : Option zV), zSok S' → S' 0 = S 0 → zG hi' B v2 tp2 c' → zKd hi' P R v2 → zE 15 138 342 [some (zA 0), some (zA 8), some (zA 145), some (zA 146), some (zI P), some (zI R), some (zI (k + 1)), w7, w8, w9, w10, w11, w12, w13, w14] [] ((n + 1, sl + 30), (S', c')) Q) : zE 15 138 654 [some (zA 0), some (zA 8), some (zA 145), some (zA 146), some (zI P), some (zI R), some (zI k), some (zI q7), some (zI p8), some (zI n9), some (zI 1), some (zJ (qF v)), none, some (zI h13), w14] [] ((n, sl), (S, c)) Q := by
  have hkd2 := zKd_so hkd hso
  refine zl_ild10 I138_654 ?_
  refine zr_if_eq (t := 680) I138_656 rfl (fun h656 => absurd h656 (by omega)) (fun h656 => ?_)
  refine zl_ald1 I138_659 ?_
  refine zl_ild4 I138_660 ?_
  refine zl_ild5 I138_662 ?_
  refine zl_ald3 I138_664 ?_
  refine zl_ald0 I138_665 ?_
  refine zr_bipush I138_666 ?_
  refine zl_ild6 I138_668 ?_
  refine zr_iadd I138_670 (by unfold zInR; omega) ?_
  refine zr_callS I138_671 C10_95 ⟨rfl, rfl⟩ ⟨by simp, rfl, Nat.le_of_ble_eq_true rfl⟩ (l_cell (d := 14) hS0.1 hS0.2 (by omega)) (fun v671 μ671 hv671 => ?_)
  obtain ⟨z671, rfl, rfl⟩ := hv671
  dsimp only [Option.toList, List.cons_append, List.nil_append]
  refine zr_callS I138_674 C10_114 ⟨rfl, rfl⟩ ⟨by simp, rfl, Nat.le_of_ble_eq_true rfl⟩ (l_agrees (d := 7) hS G hn hkd2) (fun v674 μ674 hv674 => ?_)
  obtain ⟨c674, hi6, S6, rfl, rfl, hS, hS06, G, E1, E2, E3⟩ := hv674
  dsimp only [Option.toList, List.cons_append, List.nil_append]
  refine zr_if_ne (t := 682) I138_677 rfl (fun h677 => ?_) (fun h677 => absurd h677 (by omega))
  refine zl_ild7 I138_682 ?_
  refine zr_bipush I138_684 ?_
  refine zr_ishrG I138_686 (by decide) (fun y686 hy686 => ?_)
  refine zr_bipush I138_687 ?_
  refine zr_iandG I138_689 (by decide) (fun y689 hy689 => ?_)
  refine zr_if_ne (t := 722) I138_690 rfl (fun h690 => ?_) (fun h690 => ?_)
  · refine zl_iinc6 I138_722 (by unfold zInR; omega) ?_
    refine zr_goto (t := 342) I138_725 rfl ?_
    exact KK _ _ _ v9 _  _ _ _ _ _ _ _ _ hS hS06 G (zKd_hi hkd2 E1 E2)
  · refine zl_ald1 I138_693 ?_
    refine zr_callV I138_694 C10_9 ⟨rfl, rfl⟩ ⟨rfl, Nat.le_of_ble_eq_true rfl⟩ (Or.inl ⟨rfl, sT8 hS⟩) (k_fp (d := 8) hS G) (fun v694 μ694 hv694 => ?_)
    obtain ⟨c694, rfl, rfl, G⟩ := hv694
    dsimp only [Option.toList, List.cons_append, List.nil_append]
    refine zl_lld11 I138_697 ?_
    refine zr_lcmpG I138_699 (fun y699 hy699 => ?_)
    refine zr_if_eq (t := 722) I138_700 rfl (fun h700 => ?_) (fun h700 => ?_)
    · refine zl_iinc6 I138_722 (by unfold zInR; omega) ?_
      refine zr_goto (t := 342) I138_725 rfl ?_
      exact KK _ _ _ v9 _  _ _ _ _ _ _ _ _ hS hS06 G (zKd_hi hkd2 E1 E2)
    · have hne : ¬ v9 = v := fun h9 => h700 (hy699.mpr (by rw [h9]))
      have ht := hv9.resolve_left hne
      rw [ht] at G
      refine zl_ald1 I138_703 ?_
      refine zr_callV I138_704 C10_87 ⟨rfl, rfl⟩ ⟨rfl, Nat.le_of_ble_eq_true rfl⟩ (Or.inl ⟨rfl, sT8 hS⟩) (a_undo (d := 8) hS G) (fun v704 μ704 hv704 => ?_)
      obtain ⟨x704, c704, rfl, rfl, hx704, G⟩ := hv704
      dsimp only [Option.toList, List.cons_append, List.nil_append]
      refine zr_if_lt (t := 720) I138_707 rfl (fun h707 => absurd h707 (by omega)) (fun h707 => ?_)
      refine zl_ald1 I138_710 ?_
      refine zr_callV I138_711 C10_9 ⟨rfl, rfl⟩ ⟨rfl, Nat.le_of_ble_eq_true rfl⟩ (Or.inl ⟨rfl, sT8 hS⟩) (k_fp (d := 8) hS G) (fun v711 μ711 hv711 => ?_)
      obtain ⟨c711, rfl, rfl, G⟩ := hv711
      dsimp only [Option.toList, List.cons_append, List.nil_append]
      refine zl_lld11 I138_714 ?_
      refine zr_lcmpG I138_716 (fun y716 hy716 => ?_)
      have hz := hy716.mpr rfl
      refine zr_if_eq (t := 722) I138_717 rfl (fun h717 => ?_) (fun h717 => absurd h717 (by omega))
      refine zl_iinc6 I138_722 (by unfold zInR; omega) ?_
      refine zr_goto (t := 342) I138_725 rfl ?_
      exact KK _ _ _ v _  _ _ _ _ _ _ _ _ hS hS06 G (zKd_hi hkd E1 E2)
set_option maxRecDepth 10000 in
set_option maxHeartbeats 4000000 in
theorem lw_body {n sl L : Nat} {S : zSh} {hi c : zC} {B : Int} {v : Int → Int} {tp : Option (Int → Int)} {P R k : Int} {w7 w8 w9 w10 w11 w12 w13 w14 : Option zV} {Q : Option zV → zMem → Prop} (hS : zSok S) (hS0 : (S 0).1 = 30 ∧ (S 0).2.1 = L) (hkd : zKd hi P R v) (G : zG hi B v tp c) (hB6 : 0 ≤ B ∧ B + 60 ≤ 60000) (hk : 0 ≤ k ∧ k < 20) (hP3 : 3 ≤ P) (KK : ∀ (c' : zC) (v9 : Int → Int) (t9 : Option (Int → Int)) (q7 p8 n9 h13 : Int) (w14 : Option zV), zSo v v9 → zG hi (B + 60) v9 t9 c' → (v9 = v ∨ t9 = some v) → zE 15 138 654 [some (zA 0), some (zA 8), some (zA 145), some (zA 146), some (zI P), some (zI R), some (zI k), some (zI q7), some (zI p8), some (zI n9), some (zI 1), some (zJ (qF v)), none, some (zI h13), w14] [] ((n, sl), (S, c')) Q) : zE 15 138 349 [some (zA 0), some (zA 8), some (zA 145), some (zA 146), some (zI P), some (zI R), some (zI k), w7, w8, w9, w10, w11, w12, w13, w14] [] ((n, sl), (S, c)) Q := by
  have I := G.2.2.2.1
  have hI := I.1
  have hP := hkd.1
  refine zl_ald0 I138_349 ?_
  refine zr_bipush I138_350 ?_
  refine zl_ild6 I138_352 ?_
  refine zr_iadd I138_354 (by unfold zInR; omega) ?_
  refine zr_callS I138_355 C10_95 ⟨rfl, rfl⟩ ⟨by simp, rfl, Nat.le_of_ble_eq_true rfl⟩ (l_cell (d := 14) hS0.1 hS0.2 (by omega)) (fun v355 μ355 hv355 => ?_)
  obtain ⟨z355, rfl, rfl⟩ := hv355
  dsimp only [Option.toList, List.cons_append, List.nil_append]
  refine zl_ist7 I138_358 ?_
  refine zl_ild7 I138_360 ?_
  refine zr_iconst I138_362 ?_
  refine zr_ishrG I138_363 (by decide) (fun y363 hy363 => ?_)
  refine zl_ild4 I138_364 ?_
  refine zr_callS I138_366 C10_78 ⟨rfl, rfl⟩ ⟨by simp, rfl, Nat.le_of_ble_eq_true rfl⟩ (l_up (by omega)) (fun v366 μ366 hv366 => ?_)
  obtain ⟨z366, rfl, hz366, rfl⟩ := hv366
  dsimp only [Option.toList, List.cons_append, List.nil_append]
  refine zl_ist8 I138_369 ?_
  refine zl_ald1 I138_371 ?_
  refine zr_callV I138_372 C10_15 ⟨rfl, rfl⟩ ⟨rfl, Nat.le_of_ble_eq_true rfl⟩ (Or.inl ⟨rfl, sT8 hS⟩) (k_items (d := 8) hS G ) (fun v372 μ372 hv372 => ?_)
  obtain ⟨x372, c372, rfl, rfl, rfl, G⟩ := hv372
  dsimp only [Option.toList, List.cons_append, List.nil_append]
  refine zl_ist9 I138_375 ?_
  refine zr_iconst I138_377 ?_
  refine zl_ist10 I138_378 ?_
  refine zl_ald1 I138_380 ?_
  refine zr_callV I138_381 C10_9 ⟨rfl, rfl⟩ ⟨rfl, Nat.le_of_ble_eq_true rfl⟩ (Or.inl ⟨rfl, sT8 hS⟩) (k_fp (d := 8) hS G) (fun v381 μ381 hv381 => ?_)
  obtain ⟨c381, rfl, rfl, G⟩ := hv381
  dsimp only [Option.toList, List.cons_append, List.nil_append]
  refine zl_lst11 I138_384 ?_
  refine zl_ild7 I138_386 ?_
  refine zr_bipush I138_388 ?_
  refine zr_callS I138_390 C10_78 ⟨rfl, rfl⟩ ⟨by simp, rfl, Nat.le_of_ble_eq_true rfl⟩ (l_up (by decide)) (fun v390 μ390 hv390 => ?_)
  obtain ⟨z390, rfl, hz390, rfl⟩ := hv390
  dsimp only [Option.toList, List.cons_append, List.nil_append]
  refine zl_ist13 I138_393 ?_
  refine zl_ild13 I138_395 ?_
  refine zr_iconst I138_397 ?_
  refine zr_ic_ge (t := 438) I138_398 rfl (fun h398 => ?_) (fun h398 => ?_)
  · refine zl_ild13 I138_438 ?_
    refine zr_iconst I138_440 ?_
    refine zr_ic_ne (t := 466) I138_441 rfl (fun h441 => ?_) (fun h441 => ?_)
    · refine zl_ild13 I138_466 ?_
      refine zr_iconst I138_468 ?_
      refine zr_ic_ne (t := 575) I138_469 rfl (fun h469 => ?_) (fun h469 => ?_)
      · refine zl_ild13 I138_575 ?_
        refine zr_bipush I138_577 ?_
        refine zr_ic_ge (t := 621) I138_579 rfl (fun h579 => ?_) (fun h579 => ?_)
        · refine zl_ild9 I138_621 ?_
          refine zr_if_le (t := 654) I138_623 rfl (fun h623 => ?_) (fun h623 => ?_)
          · obtain ⟨v9, t9, hso, G9, hv9⟩ := kW_ok (B := B) (tp := tp) (by omega) (Or.inl G)
            exact KK _ _ _ _ _ _ _ _ hso G9 hv9
          · refine zl_ald1 I138_626 ?_
            refine zl_ild7 I138_627 ?_
            refine zr_bipush I138_629 ?_
            refine zr_ishrG I138_631 (by decide) (fun y631 hy631 => ?_)
            refine zl_ild9 I138_632 ?_
            refine zr_callS I138_634 C10_78 ⟨rfl, rfl⟩ ⟨by simp, rfl, Nat.le_of_ble_eq_true rfl⟩ (l_up (by omega)) (fun v634 μ634 hv634 => ?_)
            obtain ⟨z634, rfl, hz634, rfl⟩ := hv634
            dsimp only [Option.toList, List.cons_append, List.nil_append]
            refine zr_callV I138_637 C10_34 ⟨rfl, rfl⟩ ⟨rfl, Nat.le_of_ble_eq_true rfl⟩ (Or.inl ⟨rfl, sT8 hS⟩) (a_remove (d := 8) hS G (by omega)) (fun v637 μ637 hv637 => ?_)
            obtain ⟨v2, c637, rfl, rfl, e637, hs637, G⟩ := hv637
            dsimp only [Option.toList, List.cons_append, List.nil_append]
            refine zl_ild9 I138_640 ?_
            refine zr_iconst I138_642 ?_
            refine zr_isub I138_643 (by unfold zInR; omega) ?_
            refine zr_ic_ne (t := 651) I138_644 rfl (fun h644 => absurd h644 (by omega)) (fun h644 => ?_)
            refine zr_iconst I138_647 ?_
            refine zr_goto (t := 652) I138_648 rfl ?_
            refine zl_ist10 I138_652 ?_
            obtain ⟨v9, t9, hso, G9, hv9⟩ := kW_ok (B := B) (tp := tp) (by omega) (Or.inr ⟨_, hs637, zG_up G (by omega)⟩)
            exact KK _ _ _ _ _ _ _ _ hso G9 hv9
        · refine zl_ild9 I138_582 ?_
          refine zr_if_le (t := 621) I138_584 rfl (fun h584 => ?_) (fun h584 => ?_)
          · refine zl_ild9 I138_621 ?_
            refine zr_if_le (t := 654) I138_623 rfl (fun h623 => ?_) (fun h623 => ?_)
            · obtain ⟨v9, t9, hso, G9, hv9⟩ := kW_ok (B := B) (tp := tp) (by omega) (Or.inl G)
              exact KK _ _ _ _ _ _ _ _ hso G9 hv9
            · refine zl_ald1 I138_626 ?_
              refine zl_ild7 I138_627 ?_
              refine zr_bipush I138_629 ?_
              refine zr_ishrG I138_631 (by decide) (fun y631 hy631 => ?_)
              refine zl_ild9 I138_632 ?_
              refine zr_callS I138_634 C10_78 ⟨rfl, rfl⟩ ⟨by simp, rfl, Nat.le_of_ble_eq_true rfl⟩ (l_up (by omega)) (fun v634 μ634 hv634 => ?_)
              obtain ⟨z634, rfl, hz634, rfl⟩ := hv634
              dsimp only [Option.toList, List.cons_append, List.nil_append]
              refine zr_callV I138_637 C10_34 ⟨rfl, rfl⟩ ⟨rfl, Nat.le_of_ble_eq_true rfl⟩ (Or.inl ⟨rfl, sT8 hS⟩) (a_remove (d := 8) hS G (by omega)) (fun v637 μ637 hv637 => ?_)
              obtain ⟨v2, c637, rfl, rfl, e637, hs637, G⟩ := hv637
              dsimp only [Option.toList, List.cons_append, List.nil_append]
              refine zl_ild9 I138_640 ?_
              refine zr_iconst I138_642 ?_
              refine zr_isub I138_643 (by unfold zInR; omega) ?_
              refine zr_ic_ne (t := 651) I138_644 rfl (fun h644 => absurd h644 (by omega)) (fun h644 => ?_)
              refine zr_iconst I138_647 ?_
              refine zr_goto (t := 652) I138_648 rfl ?_
              refine zl_ist10 I138_652 ?_
              obtain ⟨v9, t9, hso, G9, hv9⟩ := kW_ok (B := B) (tp := tp) (by omega) (Or.inr ⟨_, hs637, zG_up G (by omega)⟩)
              exact KK _ _ _ _ _ _ _ _ hso G9 hv9
          · refine zl_ald1 I138_587 ?_
            refine zl_ald2 I138_588 ?_
            refine zl_ild4 I138_589 ?_
            refine zl_ild7 I138_591 ?_
            refine zr_bipush I138_593 ?_
            refine zr_ishrG I138_595 (by decide) (fun y595 hy595 => ?_)
            refine zl_ild9 I138_596 ?_
            refine zr_callS I138_598 C10_78 ⟨rfl, rfl⟩ ⟨by simp, rfl, Nat.le_of_ble_eq_true rfl⟩ (l_up (by omega)) (fun v598 μ598 hv598 => ?_)
            obtain ⟨z598, rfl, hz598, rfl⟩ := hv598
            dsimp only [Option.toList, List.cons_append, List.nil_append]
            refine zr_iconst I138_601 ?_
            refine zl_ild7 I138_602 ?_
            refine zr_bipush I138_604 ?_
            refine zr_ishrG I138_606 (by decide) (fun y606 hy606 => ?_)
            refine zr_bipush I138_607 ?_
            refine zr_callS I138_609 C10_78 ⟨rfl, rfl⟩ ⟨by simp, rfl, Nat.le_of_ble_eq_true rfl⟩ (l_up (by decide)) (fun v609 μ609 hv609 => ?_)
            obtain ⟨z609, rfl, hz609, rfl⟩ := hv609
            dsimp only [Option.toList, List.cons_append, List.nil_append]
            refine zr_iadd I138_612 (by unfold zInR; omega) ?_
            refine zr_callS I138_613 C10_110 ⟨rfl, rfl⟩ ⟨by simp, rfl, Nat.le_of_ble_eq_true rfl⟩ (l_runs (d := 7) hS G hkd (by omega) (by omega) (by omega)) (fun v613 μ613 hv613 => ?_)
            obtain ⟨c613, rfl, rfl, h613⟩ := hv613
            dsimp only [Option.toList, List.cons_append, List.nil_append]
            refine zl_ist10 I138_616 ?_
            refine zr_goto (t := 654) I138_618 rfl ?_
            obtain ⟨v9, t9, hso, G9, hv9⟩ := kW_ok (B := B) (tp := tp) (by omega) h613
            exact KK _ _ _ _ _ _ _ _ hso G9 hv9
      · refine zl_ild9 I138_472 ?_
        refine zr_if_le (t := 519) I138_474 rfl (fun h474 => ?_) (fun h474 => ?_)
        · refine zl_ild7 I138_519 ?_
          refine zr_bipush I138_521 ?_
          refine zr_ishrG I138_523 (by decide) (fun y523 hy523 => ?_)
          refine zr_sipush I138_524 ?_
          refine zr_callS I138_527 C10_78 ⟨rfl, rfl⟩ ⟨by simp, rfl, Nat.le_of_ble_eq_true rfl⟩ (l_up (by decide)) (fun v527 μ527 hv527 => ?_)
          obtain ⟨z527, rfl, hz527, rfl⟩ := hv527
          dsimp only [Option.toList, List.cons_append, List.nil_append]
          refine zl_ist14 I138_530 ?_
          refine zl_ild14 I138_532 ?_
          refine zr_sipush I138_534 ?_
          refine zr_ic_ge (t := 565) I138_537 rfl (fun h537 => ?_) (fun h537 => ?_)
          · refine zr_iconst I138_565 ?_
            refine zr_goto (t := 570) I138_566 rfl ?_
            refine zl_ist10 I138_570 ?_
            refine zr_goto (t := 654) I138_572 rfl ?_
            obtain ⟨v9, t9, hso, G9, hv9⟩ := kW_ok (B := B) (tp := tp) (by omega) (Or.inl G)
            exact KK _ _ _ _ _ _ _ _ hso G9 hv9
          · refine zl_ald1 I138_540 ?_
            refine zl_ald2 I138_541 ?_
            refine zl_ild14 I138_542 ?_
            refine zl_ild14 I138_544 ?_
            refine zr_iconst I138_546 ?_
            refine zr_iadd I138_547 (by unfold zInR; omega) ?_
            refine zl_ild7 I138_548 ?_
            refine zr_bipush I138_550 ?_
            refine zr_ishrG I138_552 (by decide) (fun y552 hy552 => ?_)
            refine zr_bipush I138_553 ?_
            refine zr_callS I138_555 C10_78 ⟨rfl, rfl⟩ ⟨by simp, rfl, Nat.le_of_ble_eq_true rfl⟩ (l_up (by decide)) (fun v555 μ555 hv555 => ?_)
            obtain ⟨z555, rfl, hz555, rfl⟩ := hv555
            dsimp only [Option.toList, List.cons_append, List.nil_append]
            refine zr_iadd I138_558 (by unfold zInR; omega) ?_
            refine zr_callS I138_559 C10_106 ⟨rfl, rfl⟩ ⟨by simp, rfl, Nat.le_of_ble_eq_true rfl⟩ (l_fills (d := 7) hS G hkd (by omega)) (fun v559 μ559 hv559 => ?_)
            obtain ⟨c559, rfl, rfl, h559⟩ := hv559
            dsimp only [Option.toList, List.cons_append, List.nil_append]
            refine zr_if_eq (t := 569) I138_562 rfl (fun h562 => absurd h562 (by omega)) (fun h562 => ?_)
            refine zr_iconst I138_565 ?_
            refine zr_goto (t := 570) I138_566 rfl ?_
            refine zl_ist10 I138_570 ?_
            refine zr_goto (t := 654) I138_572 rfl ?_
            obtain ⟨v9, t9, hso, G9, hv9⟩ := kW_ok (B := B) (tp := tp) (by omega) h559
            exact KK _ _ _ _ _ _ _ _ hso G9 hv9
        · refine zl_ild7 I138_477 ?_
          refine zr_bipush I138_479 ?_
          refine zr_iandG I138_481 (by decide) (fun y481 hy481 => ?_)
          refine zr_if_eq (t := 519) I138_482 rfl (fun h482 => ?_) (fun h482 => ?_)
          · refine zl_ild7 I138_519 ?_
            refine zr_bipush I138_521 ?_
            refine zr_ishrG I138_523 (by decide) (fun y523 hy523 => ?_)
            refine zr_sipush I138_524 ?_
            refine zr_callS I138_527 C10_78 ⟨rfl, rfl⟩ ⟨by simp, rfl, Nat.le_of_ble_eq_true rfl⟩ (l_up (by decide)) (fun v527 μ527 hv527 => ?_)
            obtain ⟨z527, rfl, hz527, rfl⟩ := hv527
            dsimp only [Option.toList, List.cons_append, List.nil_append]
            refine zl_ist14 I138_530 ?_
            refine zl_ild14 I138_532 ?_
            refine zr_sipush I138_534 ?_
            refine zr_ic_ge (t := 565) I138_537 rfl (fun h537 => ?_) (fun h537 => ?_)
            · refine zr_iconst I138_565 ?_
              refine zr_goto (t := 570) I138_566 rfl ?_
              refine zl_ist10 I138_570 ?_
              refine zr_goto (t := 654) I138_572 rfl ?_
              obtain ⟨v9, t9, hso, G9, hv9⟩ := kW_ok (B := B) (tp := tp) (by omega) (Or.inl G)
              exact KK _ _ _ _ _ _ _ _ hso G9 hv9
            · refine zl_ald1 I138_540 ?_
              refine zl_ald2 I138_541 ?_
              refine zl_ild14 I138_542 ?_
              refine zl_ild14 I138_544 ?_
              refine zr_iconst I138_546 ?_
              refine zr_iadd I138_547 (by unfold zInR; omega) ?_
              refine zl_ild7 I138_548 ?_
              refine zr_bipush I138_550 ?_
              refine zr_ishrG I138_552 (by decide) (fun y552 hy552 => ?_)
              refine zr_bipush I138_553 ?_
              refine zr_callS I138_555 C10_78 ⟨rfl, rfl⟩ ⟨by simp, rfl, Nat.le_of_ble_eq_true rfl⟩ (l_up (by decide)) (fun v555 μ555 hv555 => ?_)
              obtain ⟨z555, rfl, hz555, rfl⟩ := hv555
              dsimp only [Option.toList, List.cons_append, List.nil_append]
              refine zr_iadd I138_558 (by unfold zInR; omega) ?_
              refine zr_callS I138_559 C10_106 ⟨rfl, rfl⟩ ⟨by simp, rfl, Nat.le_of_ble_eq_true rfl⟩ (l_fills (d := 7) hS G hkd (by omega)) (fun v559 μ559 hv559 => ?_)
              obtain ⟨c559, rfl, rfl, h559⟩ := hv559
              dsimp only [Option.toList, List.cons_append, List.nil_append]
              refine zr_if_eq (t := 569) I138_562 rfl (fun h562 => absurd h562 (by omega)) (fun h562 => ?_)
              refine zr_iconst I138_565 ?_
              refine zr_goto (t := 570) I138_566 rfl ?_
              refine zl_ist10 I138_570 ?_
              refine zr_goto (t := 654) I138_572 rfl ?_
              obtain ⟨v9, t9, hso, G9, hv9⟩ := kW_ok (B := B) (tp := tp) (by omega) h559
              exact KK _ _ _ _ _ _ _ _ hso G9 hv9
          · refine zl_ald1 I138_485 ?_
            refine zl_ild7 I138_486 ?_
            refine zr_bipush I138_488 ?_
            refine zr_ishrG I138_490 (by decide) (fun y490 hy490 => ?_)
            refine zl_ild9 I138_491 ?_
            refine zr_callS I138_493 C10_78 ⟨rfl, rfl⟩ ⟨by simp, rfl, Nat.le_of_ble_eq_true rfl⟩ (l_up (by omega)) (fun v493 μ493 hv493 => ?_)
            obtain ⟨z493, rfl, hz493, rfl⟩ := hv493
            dsimp only [Option.toList, List.cons_append, List.nil_append]
            refine zr_iconst I138_496 ?_
            refine zr_callV I138_497 C10_51 ⟨rfl, rfl⟩ ⟨rfl, Nat.le_of_ble_eq_true rfl⟩ (Or.inl ⟨rfl, sT8 hS⟩) (k_item (d := 8) hS G (a := z493) (w := 1) (by omega) (by omega)) (fun v497 μ497 hv497 => ?_)
            obtain ⟨x497, c497, rfl, rfl, rfl, G⟩ := hv497
            dsimp only [Option.toList, List.cons_append, List.nil_append]
            have hv1 := I.2.2.2.2.2.1 z493 (by omega) (by omega)
            refine zl_ald1 I138_500 ?_
            refine zl_ild7 I138_501 ?_
            refine zr_bipush I138_503 ?_
            refine zr_ishrG I138_505 (by decide) (fun y505 hy505 => ?_)
            refine zl_ild9 I138_506 ?_
            refine zr_callS I138_508 C10_78 ⟨rfl, rfl⟩ ⟨by simp, rfl, Nat.le_of_ble_eq_true rfl⟩ (l_up (by omega)) (fun v508 μ508 hv508 => ?_)
            obtain ⟨z508, rfl, hz508, rfl⟩ := hv508
            dsimp only [Option.toList, List.cons_append, List.nil_append]
            refine zr_iconst I138_511 ?_
            refine zr_callV I138_512 C10_51 ⟨rfl, rfl⟩ ⟨rfl, Nat.le_of_ble_eq_true rfl⟩ (Or.inl ⟨rfl, sT8 hS⟩) (k_item (d := 8) hS G (a := z508) (w := 2) (by omega) (by omega)) (fun v512 μ512 hv512 => ?_)
            obtain ⟨x512, c512, rfl, rfl, rfl, G⟩ := hv512
            dsimp only [Option.toList, List.cons_append, List.nil_append]
            have hv2 := I.2.2.2.2.2.1 z508 (by omega) (by omega)
            refine zr_iadd I138_515 (by unfold zInR; omega) ?_
            refine zr_goto (t := 530) I138_516 rfl ?_
            refine zl_ist14 I138_530 ?_
            refine zl_ild14 I138_532 ?_
            refine zr_sipush I138_534 ?_
            refine zr_ic_ge (t := 565) I138_537 rfl (fun h537 => ?_) (fun h537 => ?_)
            · refine zr_iconst I138_565 ?_
              refine zr_goto (t := 570) I138_566 rfl ?_
              refine zl_ist10 I138_570 ?_
              refine zr_goto (t := 654) I138_572 rfl ?_
              obtain ⟨v9, t9, hso, G9, hv9⟩ := kW_ok (B := B) (tp := tp) (by omega) (Or.inl G)
              exact KK _ _ _ _ _ _ _ _ hso G9 hv9
            · refine zl_ald1 I138_540 ?_
              refine zl_ald2 I138_541 ?_
              refine zl_ild14 I138_542 ?_
              refine zl_ild14 I138_544 ?_
              refine zr_iconst I138_546 ?_
              refine zr_iadd I138_547 (by unfold zInR; omega) ?_
              refine zl_ild7 I138_548 ?_
              refine zr_bipush I138_550 ?_
              refine zr_ishrG I138_552 (by decide) (fun y552 hy552 => ?_)
              refine zr_bipush I138_553 ?_
              refine zr_callS I138_555 C10_78 ⟨rfl, rfl⟩ ⟨by simp, rfl, Nat.le_of_ble_eq_true rfl⟩ (l_up (by decide)) (fun v555 μ555 hv555 => ?_)
              obtain ⟨z555, rfl, hz555, rfl⟩ := hv555
              dsimp only [Option.toList, List.cons_append, List.nil_append]
              refine zr_iadd I138_558 (by unfold zInR; omega) ?_
              refine zr_callS I138_559 C10_106 ⟨rfl, rfl⟩ ⟨by simp, rfl, Nat.le_of_ble_eq_true rfl⟩ (l_fills (d := 7) hS G hkd (by omega)) (fun v559 μ559 hv559 => ?_)
              obtain ⟨c559, rfl, rfl, h559⟩ := hv559
              dsimp only [Option.toList, List.cons_append, List.nil_append]
              refine zr_if_eq (t := 569) I138_562 rfl (fun h562 => absurd h562 (by omega)) (fun h562 => ?_)
              refine zr_iconst I138_565 ?_
              refine zr_goto (t := 570) I138_566 rfl ?_
              refine zl_ist10 I138_570 ?_
              refine zr_goto (t := 654) I138_572 rfl ?_
              obtain ⟨v9, t9, hso, G9, hv9⟩ := kW_ok (B := B) (tp := tp) (by omega) h559
              exact KK _ _ _ _ _ _ _ _ hso G9 hv9
    · refine zl_ald1 I138_444 ?_
      refine zl_ild8 I138_445 ?_
      refine zl_ild7 I138_447 ?_
      refine zr_bipush I138_449 ?_
      refine zr_ishrG I138_451 (by decide) (fun y451 hy451 => ?_)
      refine zr_sipush I138_452 ?_
      refine zr_callS I138_455 C10_78 ⟨rfl, rfl⟩ ⟨by simp, rfl, Nat.le_of_ble_eq_true rfl⟩ (l_up (by decide)) (fun v455 μ455 hv455 => ?_)
      obtain ⟨z455, rfl, hz455, rfl⟩ := hv455
      dsimp only [Option.toList, List.cons_append, List.nil_append]
      refine zr_callS I138_458 C10_103 ⟨rfl, rfl⟩ ⟨by simp, rfl, Nat.le_of_ble_eq_true rfl⟩ (l_finds (d := 7) hS G (by omega) (by omega)) (fun v458 μ458 hv458 => ?_)
      obtain ⟨x458, c458, rfl, rfl, rfl, G⟩ := hv458
      dsimp only [Option.toList, List.cons_append, List.nil_append]
      refine zl_ist10 I138_461 ?_
      refine zr_goto (t := 654) I138_463 rfl ?_
      obtain ⟨v9, t9, hso, G9, hv9⟩ := kW_ok (B := B) (tp := tp) (by omega) (Or.inl G)
      exact KK _ _ _ _ _ _ _ _ hso G9 hv9
  · refine zl_ald1 I138_401 ?_
    refine zl_ild8 I138_402 ?_
    refine zl_ild7 I138_404 ?_
    refine zr_bipush I138_406 ?_
    refine zr_ishrG I138_408 (by decide) (fun y408 hy408 => ?_)
    refine zr_sipush I138_409 ?_
    refine zr_callS I138_412 C10_78 ⟨rfl, rfl⟩ ⟨by simp, rfl, Nat.le_of_ble_eq_true rfl⟩ (l_up (by decide)) (fun v412 μ412 hv412 => ?_)
    obtain ⟨z412, rfl, hz412, rfl⟩ := hv412
    dsimp only [Option.toList, List.cons_append, List.nil_append]
    refine zl_ild7 I138_415 ?_
    refine zr_bipush I138_417 ?_
    refine zr_ishrG I138_419 (by decide) (fun y419 hy419 => ?_)
    refine zr_iconst I138_420 ?_
    refine zr_iandG I138_421 (by decide) (fun y421 hy421 => ?_)
    refine zr_if_ne (t := 429) I138_422 rfl (fun h422 => ?_) (fun h422 => ?_)
    · refine zr_iconst I138_429 ?_
      refine zr_callS I138_430 C10_99 ⟨rfl, rfl⟩ ⟨by simp, rfl, Nat.le_of_ble_eq_true rfl⟩ (l_places (d := 7) hS G (by omega) (by omega)) (fun v430 μ430 hv430 => ?_)
      obtain ⟨c430, rfl, rfl, h430⟩ := hv430
      dsimp only [Option.toList, List.cons_append, List.nil_append]
      refine zl_ist10 I138_433 ?_
      refine zr_goto (t := 654) I138_435 rfl ?_
      obtain ⟨v9, t9, hso, G9, hv9⟩ := kW_ok (B := B) (tp := tp) (by omega) h430
      exact KK _ _ _ _ _ _ _ _ hso G9 hv9
    · refine zr_iconst I138_425 ?_
      refine zr_goto (t := 430) I138_426 rfl ?_
      refine zr_callS I138_430 C10_99 ⟨rfl, rfl⟩ ⟨by simp, rfl, Nat.le_of_ble_eq_true rfl⟩ (l_places (d := 7) hS G (by omega) (by omega)) (fun v430 μ430 hv430 => ?_)
      obtain ⟨c430, rfl, rfl, h430⟩ := hv430
      dsimp only [Option.toList, List.cons_append, List.nil_append]
      refine zl_ist10 I138_433 ?_
      refine zr_goto (t := 654) I138_435 rfl ?_
      obtain ⟨v9, t9, hso, G9, hv9⟩ := kW_ok (B := B) (tp := tp) (by omega) h430
      exact KK _ _ _ _ _ _ _ _ hso G9 hv9
set_option maxRecDepth 10000 in
set_option maxHeartbeats 4000000 in
theorem lw_main {L : Nat} {P R : Int} (hP3 : 3 ≤ P) : ∀ k : Int, k ≤ 20 → ∀ (n sl : Nat) (S : zSh) (hi c : zC) (v : Int → Int) (tp : Option (Int → Int)) (w7 w8 w9 w10 w11 w12 w13 w14 : Option zV), zSok S → ((S 0).1 = 30 ∧ (S 0).2.1 = L) → zKd hi P R v → zG hi (60 * k) v tp c → 0 ≤ k → (n : Int) = 147 + k → (sl : Int) ≤ 20000 + 30 * k → zE 15 138 342 [some (zA 0), some (zA 8), some (zA 145), some (zA 146), some (zI P), some (zI R), some (zI k), w7, w8, w9, w10, w11, w12, w13, w14] [] ((n, sl), (S, c)) zQf := by
  refine zind _ (fun k ih hN0 => ?_)
  intro n sl S hi c v tp w7 w8 w9 w10 w11 w12 w13 w14 hS hS0 hkd G h0 hn hsl
  have hP := hkd.1
  refine zl_ild6 I138_342 ?_
  refine zr_bipush I138_344 ?_
  refine zr_ic_ge (t := 728) I138_346 rfl (fun h346 => ?_) (fun h346 => ?_)
  · refine zr_iconst I138_728 ?_
    refine zl_ist6 I138_729 ?_
    refine lw_fin hS hkd (by omega) (by omega) (by omega) 0 (by omega) _ _ _ _ _ _ _ _ _ _ G (by omega)
  · refine lw_body hS hS0 hkd G (by omega) (by omega) hP3 (fun c9 v9 t9 q7 p8 n9 h13 x14 hso G9 hv9 => ?_)
    refine lw_tail hS hS0 hkd hso G9 hv9 (by omega) (by omega) (fun c8 hi8 S8 v8 t8 y7 y8 y9 y10 y11 y12 y13 y14 hS8 hS08 G8 hkd8 => ?_)
    exact ih (k + 1) (by omega) (by omega) _ _ _ _ _ _ _ _ _ _ _ _ _ _ _ hS8 (by rw [hS08]; exact hS0) hkd8 (by rw [show 60 * (k + 1) = 60 * k + 60 by omega]; exact G8) (by omega) (by omega) (by omega)
set_option maxRecDepth 10000 in
set_option maxHeartbeats 4000000 in
theorem lw_rights {n sl L : Nat} {S : zSh} {P R : Int} {Q : Option zV → zMem → Prop} (hS : zSok S) (hS0 : (S 0).1 = 30 ∧ (S 0).2.1 = L) (hP3 : 3 ≤ P) (hR : R ≤ 10) (KK : ∀ (c hi : zC) (v : Int → Int) (tp : Option (Int → Int)) (w7 w8 : Option zV), zKd hi P R v → zG hi 0 v tp c → v 1 = 0 → zE 15 138 287 [some (zA 0), some (zA 8), some (zA 145), some (zA 146), some (zI P), some (zI R), some (zI R), w7, w8, none, none, none, none, none, none] [] ((n, sl), (S, c)) Q) : ∀ k : Int, k ≤ R → ∀ (c hi : zC) (v : Int → Int) (tp : Option (Int → Int)) (w7 w8 : Option zV), zKd hi P k v → zG hi 0 v tp c → v 1 = 0 → 0 ≤ k → zE 15 138 178 [some (zA 0), some (zA 8), some (zA 145), some (zA 146), some (zI P), some (zI R), some (zI k), w7, w8, none, none, none, none, none, none] [] ((n, sl), (S, c)) Q := by
  refine zind _ (fun k ih hN0 => ?_)
  intro c hi v tp w7 w8 hkd G hv1 h0
  have hP := hkd.1
  refine zl_ild6 I138_178 ?_
  refine zl_ild5 I138_180 ?_
  refine zr_ic_ge (t := 287) I138_182 rfl (fun h182 => ?_) (fun h182 => ?_)
  · have ek : k = R := by omega
    subst ek
    exact KK _ _ _ _ _ _ hkd G hv1
  · refine zl_ald0 I138_185 ?_
    refine zr_bipush I138_186 ?_
    refine zl_ild6 I138_188 ?_
    refine zr_iadd I138_190 (by unfold zInR; omega) ?_
    refine zr_callS I138_191 C10_95 ⟨rfl, rfl⟩ ⟨by simp, rfl, Nat.le_of_ble_eq_true rfl⟩ (l_cell (d := 14) hS0.1 hS0.2 (by omega)) (fun v191 μ191 hv191 => ?_)
    obtain ⟨z191, rfl, rfl⟩ := hv191
    dsimp only [Option.toList, List.cons_append, List.nil_append]
    refine zl_ist7 I138_194 ?_
    refine zl_ild7 I138_196 ?_
    refine zr_iconst I138_198 ?_
    refine zr_callS I138_199 C10_78 ⟨rfl, rfl⟩ ⟨by simp, rfl, Nat.le_of_ble_eq_true rfl⟩ (l_up (by decide)) (fun v199 μ199 hv199 => ?_)
    obtain ⟨z199, rfl, hz199, rfl⟩ := hv199
    dsimp only [Option.toList, List.cons_append, List.nil_append]
    refine zr_if_ne (t := 218) I138_202 rfl (fun h202 => ?_) (fun h202 => ?_)
    · refine zr_iconst I138_218 ?_
      refine zl_ist8 I138_219 ?_
      refine zl_ald3 I138_221 ?_
      refine zl_ild6 I138_222 ?_
      refine zr_iconst I138_224 ?_
      refine zl_ild7 I138_225 ?_
      refine zr_bipush I138_227 ?_
      refine zr_ishrG I138_229 (by decide) (fun y229 hy229 => ?_)
      refine zr_bipush I138_230 ?_
      refine zr_callS I138_232 C10_78 ⟨rfl, rfl⟩ ⟨by simp, rfl, Nat.le_of_ble_eq_true rfl⟩ (l_up (by decide)) (fun v232 μ232 hv232 => ?_)
      obtain ⟨z232, rfl, hz232, rfl⟩ := hv232
      dsimp only [Option.toList, List.cons_append, List.nil_append]
      refine zr_iadd I138_235 (by unfold zInR; omega) ?_
      refine zr_iast I138_236 (sT146 hS) (sN146 hS) (by omega) ?_
      replace G := zG_put G (q := 146) (k := k) (x := 1 + z232) (by omega) (by omega)
      refine zl_ald1 I138_237 ?_
      refine zl_ild7 I138_238 ?_
      refine zr_bipush I138_240 ?_
      refine zr_ishrG I138_242 (by decide) (fun y242 hy242 => ?_)
      refine zl_ild4 I138_243 ?_
      refine zr_callS I138_245 C10_78 ⟨rfl, rfl⟩ ⟨by simp, rfl, Nat.le_of_ble_eq_true rfl⟩ (l_up (by omega)) (fun v245 μ245 hv245 => ?_)
      obtain ⟨z245, rfl, hz245, rfl⟩ := hv245
      dsimp only [Option.toList, List.cons_append, List.nil_append]
      refine zl_ild8 I138_248 ?_
      refine zl_ild8 I138_250 ?_
      refine zr_sipush I138_252 ?_
      refine zr_iadd I138_255 (by unfold zInR; omega) ?_
      refine zl_ild7 I138_256 ?_
      refine zr_iconst I138_258 ?_
      refine zr_ishrG I138_259 (by decide) (fun y259 hy259 => ?_)
      refine zr_sipush I138_260 ?_
      refine zr_callS I138_263 C10_78 ⟨rfl, rfl⟩ ⟨by simp, rfl, Nat.le_of_ble_eq_true rfl⟩ (l_up (by decide)) (fun v263 μ263 hv263 => ?_)
      obtain ⟨z263, rfl, hz263, rfl⟩ := hv263
      dsimp only [Option.toList, List.cons_append, List.nil_append]
      refine zr_iadd I138_266 (by unfold zInR; omega) ?_
      refine zl_ald3 I138_267 ?_
      refine zl_ild6 I138_268 ?_
      refine zr_iald I138_270 (sT146 hS) (sN146 hS) (by omega) ?_
      rw [zup_same]
      refine zr_callV I138_271 C10_23 ⟨rfl, rfl⟩ ⟨rfl, Nat.le_of_ble_eq_true rfl⟩ (Or.inl ⟨rfl, sT8 hS⟩) (a_addR (d := 8) hS G (by omega) (by omega) (by omega) (by omega)) (fun v271 μ271 hv271 => ?_)
      obtain ⟨v2, c271, rfl, rfl, s1, s2, s3, G⟩ := hv271
      dsimp only [Option.toList, List.cons_append, List.nil_append]
      refine zl_ild6 I138_274 ?_
      refine zr_ic_eq (t := 281) I138_276 rfl (fun h276 => ?_) (fun h276 => absurd h276 (by omega))
      refine zl_iinc6 I138_281 (by unfold zInR; omega) ?_
      refine zr_goto (t := 178) I138_284 rfl ?_
      have hkd2 : zKd (zup hi 146 k (1 + z232)) P (k + 1) v2 := by
        refine ⟨⟨?_, by omega, by omega, by omega, by omega, by omega⟩, fun p p1 p2 => ?_, fun r r1 r2 => ?_⟩
        · rw [s3 0 (by omega) (by omega)]
          exact hP.1
        · rw [zup_ne (by decide), s3 _ (by omega) (by omega)]
          exact hkd.2.1 p p1 p2
        · by_cases e : r = k
          · rw [e, zup_same, ← s2, hP.2.1]
          · rw [zup_k e, s3 _ (by omega) (by omega)]
            exact hkd.2.2 r r1 (by omega)
      exact ih (k + 1) (by omega) (by omega) _ _ _ _ _ _ hkd2 G (by rw [s3 1 (by omega) (by omega)]; exact hv1) (by omega)
    · refine zl_ild7 I138_205 ?_
      refine zr_iconst I138_207 ?_
      refine zr_ishrG I138_208 (by decide) (fun y208 hy208 => ?_)
      refine zr_sipush I138_209 ?_
      refine zr_callS I138_212 C10_78 ⟨rfl, rfl⟩ ⟨by simp, rfl, Nat.le_of_ble_eq_true rfl⟩ (l_up (by decide)) (fun v212 μ212 hv212 => ?_)
      obtain ⟨z212, rfl, hz212, rfl⟩ := hv212
      dsimp only [Option.toList, List.cons_append, List.nil_append]
      refine zr_goto (t := 219) I138_215 rfl ?_
      refine zl_ist8 I138_219 ?_
      refine zl_ald3 I138_221 ?_
      refine zl_ild6 I138_222 ?_
      refine zr_iconst I138_224 ?_
      refine zl_ild7 I138_225 ?_
      refine zr_bipush I138_227 ?_
      refine zr_ishrG I138_229 (by decide) (fun y229 hy229 => ?_)
      refine zr_bipush I138_230 ?_
      refine zr_callS I138_232 C10_78 ⟨rfl, rfl⟩ ⟨by simp, rfl, Nat.le_of_ble_eq_true rfl⟩ (l_up (by decide)) (fun v232 μ232 hv232 => ?_)
      obtain ⟨z232, rfl, hz232, rfl⟩ := hv232
      dsimp only [Option.toList, List.cons_append, List.nil_append]
      refine zr_iadd I138_235 (by unfold zInR; omega) ?_
      refine zr_iast I138_236 (sT146 hS) (sN146 hS) (by omega) ?_
      replace G := zG_put G (q := 146) (k := k) (x := 1 + z232) (by omega) (by omega)
      refine zl_ald1 I138_237 ?_
      refine zl_ild7 I138_238 ?_
      refine zr_bipush I138_240 ?_
      refine zr_ishrG I138_242 (by decide) (fun y242 hy242 => ?_)
      refine zl_ild4 I138_243 ?_
      refine zr_callS I138_245 C10_78 ⟨rfl, rfl⟩ ⟨by simp, rfl, Nat.le_of_ble_eq_true rfl⟩ (l_up (by omega)) (fun v245 μ245 hv245 => ?_)
      obtain ⟨z245, rfl, hz245, rfl⟩ := hv245
      dsimp only [Option.toList, List.cons_append, List.nil_append]
      refine zl_ild8 I138_248 ?_
      refine zl_ild8 I138_250 ?_
      refine zr_sipush I138_252 ?_
      refine zr_iadd I138_255 (by unfold zInR; omega) ?_
      refine zl_ild7 I138_256 ?_
      refine zr_iconst I138_258 ?_
      refine zr_ishrG I138_259 (by decide) (fun y259 hy259 => ?_)
      refine zr_sipush I138_260 ?_
      refine zr_callS I138_263 C10_78 ⟨rfl, rfl⟩ ⟨by simp, rfl, Nat.le_of_ble_eq_true rfl⟩ (l_up (by decide)) (fun v263 μ263 hv263 => ?_)
      obtain ⟨z263, rfl, hz263, rfl⟩ := hv263
      dsimp only [Option.toList, List.cons_append, List.nil_append]
      refine zr_iadd I138_266 (by unfold zInR; omega) ?_
      refine zl_ald3 I138_267 ?_
      refine zl_ild6 I138_268 ?_
      refine zr_iald I138_270 (sT146 hS) (sN146 hS) (by omega) ?_
      rw [zup_same]
      refine zr_callV I138_271 C10_23 ⟨rfl, rfl⟩ ⟨rfl, Nat.le_of_ble_eq_true rfl⟩ (Or.inl ⟨rfl, sT8 hS⟩) (a_addR (d := 8) hS G (by omega) (by omega) (by omega) (by omega)) (fun v271 μ271 hv271 => ?_)
      obtain ⟨v2, c271, rfl, rfl, s1, s2, s3, G⟩ := hv271
      dsimp only [Option.toList, List.cons_append, List.nil_append]
      refine zl_ild6 I138_274 ?_
      refine zr_ic_eq (t := 281) I138_276 rfl (fun h276 => ?_) (fun h276 => absurd h276 (by omega))
      refine zl_iinc6 I138_281 (by unfold zInR; omega) ?_
      refine zr_goto (t := 178) I138_284 rfl ?_
      have hkd2 : zKd (zup hi 146 k (1 + z232)) P (k + 1) v2 := by
        refine ⟨⟨?_, by omega, by omega, by omega, by omega, by omega⟩, fun p p1 p2 => ?_, fun r r1 r2 => ?_⟩
        · rw [s3 0 (by omega) (by omega)]
          exact hP.1
        · rw [zup_ne (by decide), s3 _ (by omega) (by omega)]
          exact hkd.2.1 p p1 p2
        · by_cases e : r = k
          · rw [e, zup_same, ← s2, hP.2.1]
          · rw [zup_k e, s3 _ (by omega) (by omega)]
            exact hkd.2.2 r r1 (by omega)
      exact ih (k + 1) (by omega) (by omega) _ _ _ _ _ _ hkd2 G (by rw [s3 1 (by omega) (by omega)]; exact hv1) (by omega)
set_option maxRecDepth 10000 in
set_option maxHeartbeats 4000000 in
theorem lw_progs {n sl L : Nat} {S : zSh} {P : Int} {Q : Option zV → zMem → Prop} (hS : zSok S) (hS0 : (S 0).1 = 30 ∧ (S 0).2.1 = L) (hP9 : P ≤ 9) (KK : ∀ (c hi : zC) (v : Int → Int) (tp : Option (Int → Int)) (w6 : Option zV), zKd hi P 0 v → zG hi 0 v tp c → v 1 = 0 → zE 15 138 159 [some (zA 0), some (zA 8), some (zA 145), some (zA 146), some (zI P), some (zI P), w6, none, none, none, none, none, none, none, none] [] ((n, sl), (S, c)) Q) : ∀ k : Int, k ≤ P → ∀ (c hi : zC) (v : Int → Int) (tp : Option (Int → Int)) (w6 : Option zV), zKd hi k 0 v → zG hi 0 v tp c → v 1 = 0 → 0 ≤ k → zE 15 138 68 [some (zA 0), some (zA 8), some (zA 145), some (zA 146), some (zI P), some (zI k), w6, none, none, none, none, none, none, none, none] [] ((n, sl), (S, c)) Q := by
  refine zind _ (fun k ih hN0 => ?_)
  intro c hi v tp w6 hkd G hv1 h0
  have hP := hkd.1
  refine zl_ild5 I138_68 ?_
  refine zl_ild4 I138_70 ?_
  refine zr_ic_ge (t := 159) I138_72 rfl (fun h72 => ?_) (fun h72 => ?_)
  · have ek : k = P := by omega
    subst ek
    exact KK _ _ _ _ _ hkd G hv1
  · refine zl_ald0 I138_75 ?_
    refine zr_iconst I138_76 ?_
    refine zl_ild5 I138_77 ?_
    refine zr_iadd I138_79 (by unfold zInR; omega) ?_
    refine zr_callS I138_80 C10_95 ⟨rfl, rfl⟩ ⟨by simp, rfl, Nat.le_of_ble_eq_true rfl⟩ (l_cell (d := 14) hS0.1 hS0.2 (by omega)) (fun v80 μ80 hv80 => ?_)
    obtain ⟨z80, rfl, rfl⟩ := hv80
    dsimp only [Option.toList, List.cons_append, List.nil_append]
    refine zl_ist6 I138_83 ?_
    refine zl_ald2 I138_85 ?_
    refine zl_ild5 I138_86 ?_
    refine zl_ild5 I138_88 ?_
    refine zr_iconst I138_90 ?_
    refine zr_ic_ge (t := 98) I138_91 rfl (fun h91 => ?_) (fun h91 => ?_)
    · refine zl_ild6 I138_98 ?_
      refine zr_iconst I138_100 ?_
      refine zr_callS I138_101 C10_78 ⟨rfl, rfl⟩ ⟨by simp, rfl, Nat.le_of_ble_eq_true rfl⟩ (l_up (by decide)) (fun v101 μ101 hv101 => ?_)
      obtain ⟨z101, rfl, hz101, rfl⟩ := hv101
      dsimp only [Option.toList, List.cons_append, List.nil_append]
      refine zr_iast I138_104 (sT145 hS) (sN145 hS) (by omega) ?_
      replace G := zG_put G (q := 145) (k := k) (x := z101) (by omega) (by omega)
      refine zl_ald1 I138_105 ?_
      refine zl_ald2 I138_106 ?_
      refine zl_ild5 I138_107 ?_
      refine zr_iald I138_109 (sT145 hS) (sN145 hS) (by omega) ?_
      rw [zup_same]
      refine zr_iconst I138_110 ?_
      refine zl_ild6 I138_111 ?_
      refine zr_iconst I138_113 ?_
      refine zr_ishrG I138_114 (by decide) (fun y114 hy114 => ?_)
      refine zl_ald2 I138_115 ?_
      refine zl_ild5 I138_116 ?_
      refine zr_iald I138_118 (sT145 hS) (sN145 hS) (by omega) ?_
      rw [zup_same]
      refine zr_iconst I138_119 ?_
      refine zr_ic_ne (t := 128) I138_120 rfl (fun h120 => ?_) (fun h120 => ?_)
      · refine zr_bipush I138_128 ?_
        refine zr_callS I138_130 C10_78 ⟨rfl, rfl⟩ ⟨by simp, rfl, Nat.le_of_ble_eq_true rfl⟩ (l_up (by decide)) (fun v130 μ130 hv130 => ?_)
        obtain ⟨z130, rfl, hz130, rfl⟩ := hv130
        dsimp only [Option.toList, List.cons_append, List.nil_append]
        refine zr_iadd I138_133 (by unfold zInR; omega) ?_
        refine zl_ild6 I138_134 ?_
        refine zr_bipush I138_136 ?_
        refine zr_ishrG I138_138 (by decide) (fun y138 hy138 => ?_)
        refine zr_iconst I138_139 ?_
        refine zr_callS I138_140 C10_78 ⟨rfl, rfl⟩ ⟨by simp, rfl, Nat.le_of_ble_eq_true rfl⟩ (l_up (by decide)) (fun v140 μ140 hv140 => ?_)
        obtain ⟨z140, rfl, hz140, rfl⟩ := hv140
        dsimp only [Option.toList, List.cons_append, List.nil_append]
        refine zr_callV I138_143 C10_19 ⟨rfl, rfl⟩ ⟨rfl, Nat.le_of_ble_eq_true rfl⟩ (Or.inl ⟨rfl, sT8 hS⟩) (a_addP (d := 8) hS G (by omega) (by omega) (by omega) (by omega)) (fun v143 μ143 hv143 => ?_)
        obtain ⟨v2, c143, rfl, rfl, s1, s2, s3, G⟩ := hv143
        dsimp only [Option.toList, List.cons_append, List.nil_append]
        refine zl_ild5 I138_146 ?_
        refine zr_ic_eq (t := 153) I138_148 rfl (fun h148 => ?_) (fun h148 => absurd h148 (by omega))
        refine zl_iinc5 I138_153 (by unfold zInR; omega) ?_
        refine zr_goto (t := 68) I138_156 rfl ?_
        have hkd2 : zKd (zup hi 145 k z101) (k + 1) 0 v2 := by
          refine ⟨⟨by omega, ?_, by omega, by omega, by omega, by omega⟩, fun p p1 p2 => ?_, fun r r1 r2 => absurd r2 (by omega)⟩
          · rw [s3 2 (by omega) (by omega)]
            exact hP.2.1
          · by_cases e : p = k
            · rw [e, zup_same, ← s2, hP.1]
            · rw [zup_k e, s3 _ (by omega) (by omega)]
              exact hkd.2.1 p p1 (by omega)
        exact ih (k + 1) (by omega) (by omega) _ _ _ _ _ hkd2 G (by rw [s3 1 (by omega) (by omega)]; exact hv1) (by omega)
      · refine zr_bipush I138_123 ?_
        refine zr_goto (t := 130) I138_125 rfl ?_
        refine zr_callS I138_130 C10_78 ⟨rfl, rfl⟩ ⟨by simp, rfl, Nat.le_of_ble_eq_true rfl⟩ (l_up (by decide)) (fun v130 μ130 hv130 => ?_)
        obtain ⟨z130, rfl, hz130, rfl⟩ := hv130
        dsimp only [Option.toList, List.cons_append, List.nil_append]
        refine zr_iadd I138_133 (by unfold zInR; omega) ?_
        refine zl_ild6 I138_134 ?_
        refine zr_bipush I138_136 ?_
        refine zr_ishrG I138_138 (by decide) (fun y138 hy138 => ?_)
        refine zr_iconst I138_139 ?_
        refine zr_callS I138_140 C10_78 ⟨rfl, rfl⟩ ⟨by simp, rfl, Nat.le_of_ble_eq_true rfl⟩ (l_up (by decide)) (fun v140 μ140 hv140 => ?_)
        obtain ⟨z140, rfl, hz140, rfl⟩ := hv140
        dsimp only [Option.toList, List.cons_append, List.nil_append]
        refine zr_callV I138_143 C10_19 ⟨rfl, rfl⟩ ⟨rfl, Nat.le_of_ble_eq_true rfl⟩ (Or.inl ⟨rfl, sT8 hS⟩) (a_addP (d := 8) hS G (by omega) (by omega) (by omega) (by omega)) (fun v143 μ143 hv143 => ?_)
        obtain ⟨v2, c143, rfl, rfl, s1, s2, s3, G⟩ := hv143
        dsimp only [Option.toList, List.cons_append, List.nil_append]
        refine zl_ild5 I138_146 ?_
        refine zr_ic_eq (t := 153) I138_148 rfl (fun h148 => ?_) (fun h148 => absurd h148 (by omega))
        refine zl_iinc5 I138_153 (by unfold zInR; omega) ?_
        refine zr_goto (t := 68) I138_156 rfl ?_
        have hkd2 : zKd (zup hi 145 k z101) (k + 1) 0 v2 := by
          refine ⟨⟨by omega, ?_, by omega, by omega, by omega, by omega⟩, fun p p1 p2 => ?_, fun r r1 r2 => absurd r2 (by omega)⟩
          · rw [s3 2 (by omega) (by omega)]
            exact hP.2.1
          · by_cases e : p = k
            · rw [e, zup_same, ← s2, hP.1]
            · rw [zup_k e, s3 _ (by omega) (by omega)]
              exact hkd.2.1 p p1 (by omega)
        exact ih (k + 1) (by omega) (by omega) _ _ _ _ _ hkd2 G (by rw [s3 1 (by omega) (by omega)]; exact hv1) (by omega)
    · refine zr_iconst I138_94 ?_
      refine zr_goto (t := 104) I138_95 rfl ?_
      refine zr_iast I138_104 (sT145 hS) (sN145 hS) (by omega) ?_
      replace G := zG_put G (q := 145) (k := k) (x := 2) (by omega) (by omega)
      refine zl_ald1 I138_105 ?_
      refine zl_ald2 I138_106 ?_
      refine zl_ild5 I138_107 ?_
      refine zr_iald I138_109 (sT145 hS) (sN145 hS) (by omega) ?_
      rw [zup_same]
      refine zr_iconst I138_110 ?_
      refine zl_ild6 I138_111 ?_
      refine zr_iconst I138_113 ?_
      refine zr_ishrG I138_114 (by decide) (fun y114 hy114 => ?_)
      refine zl_ald2 I138_115 ?_
      refine zl_ild5 I138_116 ?_
      refine zr_iald I138_118 (sT145 hS) (sN145 hS) (by omega) ?_
      rw [zup_same]
      refine zr_iconst I138_119 ?_
      refine zr_ic_ne (t := 128) I138_120 rfl (fun h120 => ?_) (fun h120 => ?_)
      · refine zr_bipush I138_128 ?_
        refine zr_callS I138_130 C10_78 ⟨rfl, rfl⟩ ⟨by simp, rfl, Nat.le_of_ble_eq_true rfl⟩ (l_up (by decide)) (fun v130 μ130 hv130 => ?_)
        obtain ⟨z130, rfl, hz130, rfl⟩ := hv130
        dsimp only [Option.toList, List.cons_append, List.nil_append]
        refine zr_iadd I138_133 (by unfold zInR; omega) ?_
        refine zl_ild6 I138_134 ?_
        refine zr_bipush I138_136 ?_
        refine zr_ishrG I138_138 (by decide) (fun y138 hy138 => ?_)
        refine zr_iconst I138_139 ?_
        refine zr_callS I138_140 C10_78 ⟨rfl, rfl⟩ ⟨by simp, rfl, Nat.le_of_ble_eq_true rfl⟩ (l_up (by decide)) (fun v140 μ140 hv140 => ?_)
        obtain ⟨z140, rfl, hz140, rfl⟩ := hv140
        dsimp only [Option.toList, List.cons_append, List.nil_append]
        refine zr_callV I138_143 C10_19 ⟨rfl, rfl⟩ ⟨rfl, Nat.le_of_ble_eq_true rfl⟩ (Or.inl ⟨rfl, sT8 hS⟩) (a_addP (d := 8) hS G (by omega) (by omega) (by omega) (by omega)) (fun v143 μ143 hv143 => ?_)
        obtain ⟨v2, c143, rfl, rfl, s1, s2, s3, G⟩ := hv143
        dsimp only [Option.toList, List.cons_append, List.nil_append]
        refine zl_ild5 I138_146 ?_
        refine zr_ic_eq (t := 153) I138_148 rfl (fun h148 => ?_) (fun h148 => absurd h148 (by omega))
        refine zl_iinc5 I138_153 (by unfold zInR; omega) ?_
        refine zr_goto (t := 68) I138_156 rfl ?_
        have hkd2 : zKd (zup hi 145 k 2) (k + 1) 0 v2 := by
          refine ⟨⟨by omega, ?_, by omega, by omega, by omega, by omega⟩, fun p p1 p2 => ?_, fun r r1 r2 => absurd r2 (by omega)⟩
          · rw [s3 2 (by omega) (by omega)]
            exact hP.2.1
          · by_cases e : p = k
            · rw [e, zup_same, ← s2, hP.1]
            · rw [zup_k e, s3 _ (by omega) (by omega)]
              exact hkd.2.1 p p1 (by omega)
        exact ih (k + 1) (by omega) (by omega) _ _ _ _ _ hkd2 G (by rw [s3 1 (by omega) (by omega)]; exact hv1) (by omega)
      · refine zr_bipush I138_123 ?_
        refine zr_goto (t := 130) I138_125 rfl ?_
        refine zr_callS I138_130 C10_78 ⟨rfl, rfl⟩ ⟨by simp, rfl, Nat.le_of_ble_eq_true rfl⟩ (l_up (by decide)) (fun v130 μ130 hv130 => ?_)
        obtain ⟨z130, rfl, hz130, rfl⟩ := hv130
        dsimp only [Option.toList, List.cons_append, List.nil_append]
        refine zr_iadd I138_133 (by unfold zInR; omega) ?_
        refine zl_ild6 I138_134 ?_
        refine zr_bipush I138_136 ?_
        refine zr_ishrG I138_138 (by decide) (fun y138 hy138 => ?_)
        refine zr_iconst I138_139 ?_
        refine zr_callS I138_140 C10_78 ⟨rfl, rfl⟩ ⟨by simp, rfl, Nat.le_of_ble_eq_true rfl⟩ (l_up (by decide)) (fun v140 μ140 hv140 => ?_)
        obtain ⟨z140, rfl, hz140, rfl⟩ := hv140
        dsimp only [Option.toList, List.cons_append, List.nil_append]
        refine zr_callV I138_143 C10_19 ⟨rfl, rfl⟩ ⟨rfl, Nat.le_of_ble_eq_true rfl⟩ (Or.inl ⟨rfl, sT8 hS⟩) (a_addP (d := 8) hS G (by omega) (by omega) (by omega) (by omega)) (fun v143 μ143 hv143 => ?_)
        obtain ⟨v2, c143, rfl, rfl, s1, s2, s3, G⟩ := hv143
        dsimp only [Option.toList, List.cons_append, List.nil_append]
        refine zl_ild5 I138_146 ?_
        refine zr_ic_eq (t := 153) I138_148 rfl (fun h148 => ?_) (fun h148 => absurd h148 (by omega))
        refine zl_iinc5 I138_153 (by unfold zInR; omega) ?_
        refine zr_goto (t := 68) I138_156 rfl ?_
        have hkd2 : zKd (zup hi 145 k 2) (k + 1) 0 v2 := by
          refine ⟨⟨by omega, ?_, by omega, by omega, by omega, by omega⟩, fun p p1 p2 => ?_, fun r r1 r2 => absurd r2 (by omega)⟩
          · rw [s3 2 (by omega) (by omega)]
            exact hP.2.1
          · by_cases e : p = k
            · rw [e, zup_same, ← s2, hP.1]
            · rw [zup_k e, s3 _ (by omega) (by omega)]
              exact hkd.2.1 p p1 (by omega)
        exact ih (k + 1) (by omega) (by omega) _ _ _ _ _ hkd2 G (by rw [s3 1 (by omega) (by omega)]; exact hv1) (by omega)
