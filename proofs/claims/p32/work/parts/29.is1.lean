/-! ISSO, FROM ITS END BACK -/
theorem sv2 (σ : NS) (k : Nat) : svl (σ.S k) (rX σ.S (cbS σ) (kfS σ.P σ.np) k) 2 = σ.S k 2 := rfl
theorem sv3 (σ : NS) (k : Nat) : svl (σ.S k) (rX σ.S (cbS σ) (kfS σ.P σ.np) k) 3 = σ.S k 3 := rfl
theorem sv1 (σ : NS) (k : Nat) : svl (σ.S k) (rX σ.S (cbS σ) (kfS σ.P σ.np) k) 1 = σ.S k 1 := rfl
theorem sv5 (σ : NS) (k : Nat) : svl (σ.S k) (rX σ.S (cbS σ) (kfS σ.P σ.np) k) 5 = σ.S k 5 := rfl
theorem sv6 (σ : NS) (k : Nat) : svl (σ.S k) (rX σ.S (cbS σ) (kfS σ.P σ.np) k) 6 = rB σ.S k := rfl
theorem sv7 (σ : NS) (k : Nat) : svl (σ.S k) (rX σ.S (cbS σ) (kfS σ.P σ.np) k) 7 = partS (rB σ.S k) := rfl
theorem sv8 (σ : NS) (k : Nat) : svl (σ.S k) (rX σ.S (cbS σ) (kfS σ.P σ.np) k) 8 = bR σ k := rfl

theorem man0 (σ : NS) : manS σ 0 = σ.mi := rfl
theorem man1 (σ : NS) : manS σ 1 = nI σ.np := rfl
theorem man2 (σ : NS) : manS σ 2 = nI σ.nf := rfl
theorem man3 (σ : NS) : manS σ 3 = nI σ.ns := rfl
theorem man4 (σ : NS) : manS σ 4 = rB σ.S σ.ns := rfl
theorem man5 (σ : NS) : manS σ 5 = nB σ σ.ns := rfl
theorem man6 (σ : NS) : manS σ 6 = onS σ := rfl
theorem man7 (σ : NS) : manS σ 7 = setF σ.F σ.nf := rfl
theorem man8 (σ : NS) : manS σ 8 = strS σ := rfl
theorem man9 (σ : NS) : manS σ 9 = σ.ti := rfl
theorem man10 (σ : NS) : manS σ 10 = σ.be := rfl
theorem man11 (σ : NS) : manS σ 11 = σ.ms := rfl
theorem man12 (σ : NS) : manS σ 12 = σ.sl := rfl
theorem man13 (σ : NS) : manS σ 13 = σ.off := rfl
theorem man14 (σ : NS) : manS σ 14 = σ.o 4 := rfl
theorem man15 (σ : NS) : manS σ 15 = cntF σ.F σ.nf := rfl
theorem ov0 (r : Nat → Int32) : ovl r 0 = r 0 := rfl
theorem ov1 (r : Nat → Int32) : ovl r 1 = r 1 := rfl
theorem ov2 (r : Nat → Int32) : ovl r 2 = r 2 := rfl
theorem ov3 (r : Nat → Int32) : ovl r 3 = r 3 := rfl
/-- isSo answers yes; the night is as it was -/
def ISQ (G : GG) (tg ke : Nat) (σ : NS) : Option Value → AH → Prop := fun r h2 => some (.int 1) = r ∧ ∃ A2, KelW G h2 tg ke A2 σ

set_option maxHeartbeats 4000000 in
set_option maxRecDepth 100000 in
theorem is_snd {p : Program} {l : Launch} {e : Env} {s0 s : State} {a0 : Array Value} {m : MethodId} {args : Array Value} {below : List Frame} {meth : Method} {c : Code} {G : GG} {h h0 : AH} {bc bs tg ke : Nat} {A : KA} {σ : NS} (X : MX p l s m meth c s0 a0 G cL_isSo yL_isSo.cls 16) (hret : meth.sig.returnType = some .boolean) (htg : tg ≠ 0) (w : KelW G h tg ke A σ) (hv : IV σ) {y2 y3 y4 y5 y6 y7 y8 y10 y11 y14 y15 : Option Value} : AW p l e (rmv 10 0 0) s m args below meth c (MQ below (cQc s0 G tg h0 (ISQ G tg ke σ)) args s 0 0 (fun q => s0.heap.size ≤ q)) s0 G 16 tg h0 h bc bs 798 [some (.ref ke), some (.int σ.di), y2, y3, y4, y5, y6, y7, y8, some (.int (nB σ σ.ns)), y10, y11, some (.int (σ.o 0)), some (.int (cyc (σ.o 0))), y14, y15] [] := by
  refine aw_ald0 X dL_isSo_798 rfl ?_
  refine aw_callV X dL_isSo_799 rfl (k_X6_nextGong X.1 w) cmX6_nextGong ml_L_135 rfl w.1 rfl rfl (Nat.le_of_ble_eq_true rfl) ⟨Nat.le_of_ble_eq_true rfl, Nat.le_of_ble_eq_true rfl⟩ (aw_rs ?_)
  rcases orc_is hv.oi with ⟨q0, q1, q2, q3, q4⟩ | ⟨q0, q1, q2, q3, q4, q5, q6⟩
  · skip
    refine aw_ist14 X dL_isSo_802 rfl (by decide) rfl ?_
    refine aw_ild12 X dL_isSo_804 rfl ?_
    refine aw_if_ge (n2 := 841) X dL_isSo_806 rfl rfl (fun c806 => absurd c806 (by rw [q0]; decide)) (fun c806 => ?_)
    refine aw_ald0 X dL_isSo_809 rfl ?_
    refine aw_iconst X (1) dL_isSo_810 (by decide) rfl ?_
    refine aw_callV X dL_isSo_811 rfl (r_snd X.1 w (by decide) (ov1 _)) cmX6_sound ml_L_69 rfl w.1 rfl rfl (Nat.le_of_ble_eq_true rfl) ⟨Nat.le_of_ble_eq_true rfl, Nat.le_of_ble_eq_true rfl⟩ (aw_rs ?_)
    refine aw_ald0 X dL_isSo_814 rfl ?_
    refine aw_iconst X (2) dL_isSo_815 (by decide) rfl ?_
    refine aw_callV X dL_isSo_816 rfl (r_snd X.1 w (by decide) (ov2 _)) cmX6_sound ml_L_69 rfl w.1 rfl rfl (Nat.le_of_ble_eq_true rfl) ⟨Nat.le_of_ble_eq_true rfl, Nat.le_of_ble_eq_true rfl⟩ (aw_rs ?_)
    refine aw_iadd X dL_isSo_819 rfl ?_
    refine aw_ald0 X dL_isSo_820 rfl ?_
    refine aw_iconst X (3) dL_isSo_821 (by decide) rfl ?_
    refine aw_callV X dL_isSo_822 rfl (r_snd X.1 w (by decide) (ov3 _)) cmX6_sound ml_L_69 rfl w.1 rfl rfl (Nat.le_of_ble_eq_true rfl) ⟨Nat.le_of_ble_eq_true rfl, Nat.le_of_ble_eq_true rfl⟩ (aw_rs ?_)
    refine aw_iadd X dL_isSo_825 rfl ?_
    refine aw_if_ne (n2 := 839) X dL_isSo_826 rfl rfl (fun c826 => absurd (by rw [q1, q2, q3]; decide) c826) (fun c826 => ?_)
    refine aw_ild14 X dL_isSo_829 rfl ?_
    refine aw_iconst X (-1) dL_isSo_831 (by decide) rfl ?_
    refine aw_icmp_ne (n2 := 839) X dL_isSo_832 rfl rfl (fun c832 => absurd q4 c832) (fun c832 => ?_)
    refine aw_iconst X (1) dL_isSo_835 (by decide) rfl ?_
    refine aw_goto (n := 840) X dL_isSo_836 rfl ?_
    exact aw_iret X hret rfl dL_isSo_840 (⟨rfl, A, w⟩)
  · skip
    refine aw_ist14 X dL_isSo_802 rfl (by decide) rfl ?_
    refine aw_ild12 X dL_isSo_804 rfl ?_
    refine aw_if_ge (n2 := 841) X dL_isSo_806 rfl rfl (fun c806 => ?_) (fun c806 => absurd (Int32.not_lt.mp q0) c806)
    refine aw_ald0 X dL_isSo_841 rfl ?_
    refine aw_callV X dL_isSo_842 rfl (k_X6_bestSwap X.1 htg w) cmX6_bestSwap ml_L_138 rfl w.1 rfl rfl (Nat.le_of_ble_eq_true rfl) ⟨Nat.le_of_ble_eq_true rfl, Nat.le_of_ble_eq_true rfl⟩ (fun r h2 hq hf => ?_)
    obtain ⟨rfl, A2, w2⟩ := hq
    refine aw_ist15 X dL_isSo_845 rfl (by decide) rfl ?_
    refine aw_ald0 X dL_isSo_847 rfl ?_
    refine aw_iconst X (1) dL_isSo_848 (by decide) rfl ?_
    refine aw_callV X dL_isSo_849 rfl (r_snd X.1 w2 (by decide) (ov1 _)) cmX6_sound ml_L_69 rfl w2.1 rfl rfl (Nat.le_of_ble_eq_true rfl) ⟨Nat.le_of_ble_eq_true rfl, Nat.le_of_ble_eq_true rfl⟩ (aw_rs ?_)
    refine aw_if_le (n2 := 968) X dL_isSo_852 rfl rfl (fun c852 => absurd c852 (Int32.not_le.mpr q1)) (fun c852 => ?_)
    refine aw_ald0 X dL_isSo_855 rfl ?_
    refine aw_iconst X (1) dL_isSo_856 (by decide) rfl ?_
    refine aw_callV X dL_isSo_857 rfl (r_snd X.1 w2 (by decide) (ov1 _)) cmX6_sound ml_L_69 rfl w2.1 rfl rfl (Nat.le_of_ble_eq_true rfl) ⟨Nat.le_of_ble_eq_true rfl, Nat.le_of_ble_eq_true rfl⟩ (aw_rs ?_)
    refine aw_iconst X (4) dL_isSo_860 (by decide) rfl ?_
    refine aw_icmp_ge (n2 := 968) X dL_isSo_861 rfl rfl (fun c861 => absurd c861 (Int32.not_le.mpr q2)) (fun c861 => ?_)
    refine aw_ald0 X dL_isSo_864 rfl ?_
    refine aw_iconst X (2) dL_isSo_865 (by decide) rfl ?_
    refine aw_callV X dL_isSo_866 rfl (r_snd X.1 w2 (by decide) (ov2 _)) cmX6_sound ml_L_69 rfl w2.1 rfl rfl (Nat.le_of_ble_eq_true rfl) ⟨Nat.le_of_ble_eq_true rfl, Nat.le_of_ble_eq_true rfl⟩ (aw_rs ?_)
    refine aw_if_lt (n2 := 968) X dL_isSo_869 rfl rfl (fun c869 => absurd c869 q3) (fun c869 => ?_)
    refine aw_ald0 X dL_isSo_872 rfl ?_
    refine aw_iconst X (2) dL_isSo_873 (by decide) rfl ?_
    refine aw_callV X dL_isSo_874 rfl (r_snd X.1 w2 (by decide) (ov2 _)) cmX6_sound ml_L_69 rfl w2.1 rfl rfl (Nat.le_of_ble_eq_true rfl) ⟨Nat.le_of_ble_eq_true rfl, Nat.le_of_ble_eq_true rfl⟩ (aw_rs ?_)
    refine aw_ild13 X dL_isSo_877 rfl ?_
    refine aw_icmp_ge (n2 := 968) X dL_isSo_879 rfl rfl (fun c879 => absurd c879 (Int32.not_le.mpr q4)) (fun c879 => ?_)
    refine aw_bipush X (8) dL_isSo_882 (by decide) rfl ?_
    refine aw_ald0 X dL_isSo_884 rfl ?_
    refine aw_iconst X (1) dL_isSo_885 (by decide) rfl ?_
    refine aw_callV X dL_isSo_886 rfl (r_snd X.1 w2 (by decide) (ov1 _)) cmX6_sound ml_L_69 rfl w2.1 rfl rfl (Nat.le_of_ble_eq_true rfl) ⟨Nat.le_of_ble_eq_true rfl, Nat.le_of_ble_eq_true rfl⟩ (aw_rs ?_)
    refine aw_imul X dL_isSo_889 rfl ?_
    refine aw_ild14 X dL_isSo_890 rfl ?_
    refine aw_imul X dL_isSo_892 rfl ?_
    refine aw_ald0 X dL_isSo_893 rfl ?_
    refine aw_iconst X (2) dL_isSo_894 (by decide) rfl ?_
    refine aw_callV X dL_isSo_895 rfl (r_snd X.1 w2 (by decide) (ov2 _)) cmX6_sound ml_L_69 rfl w2.1 rfl rfl (Nat.le_of_ble_eq_true rfl) ⟨Nat.le_of_ble_eq_true rfl, Nat.le_of_ble_eq_true rfl⟩ (aw_rs ?_)
    refine aw_iadd X dL_isSo_898 rfl ?_
    refine aw_ild13 X dL_isSo_899 rfl ?_
    refine aw_icmp_lt (n2 := 968) X dL_isSo_901 rfl rfl (fun c901 => absurd c901 (Int32.not_lt.mpr q5)) (fun c901 => ?_)
    refine aw_bipush X (8) dL_isSo_904 (by decide) rfl ?_
    refine aw_ald0 X dL_isSo_906 rfl ?_
    refine aw_iconst X (1) dL_isSo_907 (by decide) rfl ?_
    refine aw_callV X dL_isSo_908 rfl (r_snd X.1 w2 (by decide) (ov1 _)) cmX6_sound ml_L_69 rfl w2.1 rfl rfl (Nat.le_of_ble_eq_true rfl) ⟨Nat.le_of_ble_eq_true rfl, Nat.le_of_ble_eq_true rfl⟩ (aw_rs ?_)
    refine aw_imul X dL_isSo_911 rfl ?_
    refine aw_ild14 X dL_isSo_912 rfl ?_
    refine aw_iconst X (1) dL_isSo_914 (by decide) rfl ?_
    refine aw_isub X dL_isSo_915 rfl ?_
    refine aw_imul X dL_isSo_916 rfl ?_
    refine aw_ald0 X dL_isSo_917 rfl ?_
    refine aw_iconst X (2) dL_isSo_918 (by decide) rfl ?_
    refine aw_callV X dL_isSo_919 rfl (r_snd X.1 w2 (by decide) (ov2 _)) cmX6_sound ml_L_69 rfl w2.1 rfl rfl (Nat.le_of_ble_eq_true rfl) ⟨Nat.le_of_ble_eq_true rfl, Nat.le_of_ble_eq_true rfl⟩ (aw_rs ?_)
    refine aw_iadd X dL_isSo_922 rfl ?_
    refine aw_ild13 X dL_isSo_923 rfl ?_
    refine aw_icmp_ge (n2 := 968) X dL_isSo_925 rfl rfl (fun c925 => absurd c925 (Int32.not_le.mpr q6)) (fun c925 => ?_)
    refine aw_ild15 X dL_isSo_928 rfl ?_
    refine aw_if_lt (n2 := 964) X dL_isSo_930 rfl rfl (fun c930 => ?_) (fun c930 => ?_)
    · refine aw_iconst X (1) dL_isSo_964 (by decide) rfl ?_
      refine aw_goto (n := 969) X dL_isSo_965 rfl ?_
      exact aw_iret X hret rfl dL_isSo_969 (⟨rfl, A2, w2⟩)
    · obtain ⟨b1, b2, b3⟩ := (best_is hv).resolve_left c930
      refine aw_ild15 X dL_isSo_933 rfl ?_
      refine aw_bipush X (10) dL_isSo_935 (by decide) rfl ?_
      refine aw_idiv X dL_isSo_937 (by decide) rfl ?_
      refine aw_ild15 X dL_isSo_938 rfl ?_
      refine aw_bipush X (10) dL_isSo_940 (by decide) rfl ?_
      refine aw_irem X dL_isSo_942 (by decide) rfl ?_
      refine aw_icmp_ge (n2 := 968) X dL_isSo_943 rfl rfl (fun c943 => absurd c943 (Int32.not_le.mpr b1)) (fun c943 => ?_)
      refine aw_ild15 X dL_isSo_946 rfl ?_
      refine aw_bipush X (10) dL_isSo_948 (by decide) rfl ?_
      refine aw_irem X dL_isSo_950 (by decide) rfl ?_
      refine aw_ald0 X dL_isSo_951 rfl ?_
      refine aw_iconst X (3) dL_isSo_952 (by decide) rfl ?_
      refine aw_callV X dL_isSo_953 rfl (r_man X.1 w2 (by decide) (man3 σ)) cmX6_many ml_L_40 rfl w2.1 rfl rfl (Nat.le_of_ble_eq_true rfl) ⟨Nat.le_of_ble_eq_true rfl, Nat.le_of_ble_eq_true rfl⟩ (aw_rs ?_)
      refine aw_icmp_ge (n2 := 968) X dL_isSo_956 rfl rfl (fun c956 => absurd c956 (Int32.not_le.mpr b2)) (fun c956 => ?_)
      refine aw_ild9 X dL_isSo_959 rfl ?_
      refine aw_if_le (n2 := 968) X dL_isSo_961 rfl rfl (fun c961 => absurd c961 (Int32.not_le.mpr b3)) (fun c961 => ?_)
      refine aw_iconst X (1) dL_isSo_964 (by decide) rfl ?_
      refine aw_goto (n := 969) X dL_isSo_965 rfl ?_
      exact aw_iret X hret rfl dL_isSo_969 (⟨rfl, A2, w2⟩)

set_option maxHeartbeats 4000000 in
set_option maxRecDepth 100000 in
theorem is_end {p : Program} {l : Launch} {e : Env} {s0 s : State} {a0 : Array Value} {m : MethodId} {args : Array Value} {below : List Frame} {meth : Method} {c : Code} {G : GG} {h h0 : AH} {bc bs tg ke : Nat} {A : KA} {σ : NS} (X : MX p l s m meth c s0 a0 G cL_isSo yL_isSo.cls 16) (hret : meth.sig.returnType = some .boolean) (htg : tg ≠ 0) (w : KelW G h tg ke A σ) (hv : IV σ) {y2 y3 y4 y5 y6 y7 y12 y13 y14 y15 : Option Value} : AW p l e (rmv 10 0 0) s m args below meth c (MQ below (cQc s0 G tg h0 (ISQ G tg ke σ)) args s 0 0 (fun q => s0.heap.size ≤ q)) s0 G 16 tg h0 h bc bs 660 [some (.ref ke), some (.int σ.di), y2, y3, y4, y5, y6, y7, some (.int (rB σ.S σ.ns)), some (.int (nB σ σ.ns)), some (.int (onS σ)), some (.int (strS σ)), y12, y13, y14, y15] [] := by
  refine aw_ald0 X dL_isSo_660 rfl ?_
  refine aw_iconst X (4) dL_isSo_661 (by decide) rfl ?_
  refine aw_callV X dL_isSo_662 rfl (r_man X.1 w (by decide) (man4 σ)) cmX6_many ml_L_40 rfl w.1 rfl rfl (Nat.le_of_ble_eq_true rfl) ⟨Nat.le_of_ble_eq_true rfl, Nat.le_of_ble_eq_true rfl⟩ (aw_rs ?_)
  refine aw_ild8 X dL_isSo_665 rfl ?_
  refine aw_icmp_ne (n2 := 753) X dL_isSo_667 rfl rfl (fun c667 => absurd rfl c667) (fun c667 => ?_)
  refine aw_ald0 X dL_isSo_670 rfl ?_
  refine aw_iconst X (5) dL_isSo_671 (by decide) rfl ?_
  refine aw_callV X dL_isSo_672 rfl (r_man X.1 w (by decide) (man5 σ)) cmX6_many ml_L_40 rfl w.1 rfl rfl (Nat.le_of_ble_eq_true rfl) ⟨Nat.le_of_ble_eq_true rfl, Nat.le_of_ble_eq_true rfl⟩ (aw_rs ?_)
  refine aw_ild9 X dL_isSo_675 rfl ?_
  refine aw_icmp_ne (n2 := 753) X dL_isSo_677 rfl rfl (fun c677 => absurd rfl c677) (fun c677 => ?_)
  refine aw_ald0 X dL_isSo_680 rfl ?_
  refine aw_bipush X (6) dL_isSo_681 (by decide) rfl ?_
  refine aw_callV X dL_isSo_683 rfl (r_man X.1 w (by decide) (man6 σ)) cmX6_many ml_L_40 rfl w.1 rfl rfl (Nat.le_of_ble_eq_true rfl) ⟨Nat.le_of_ble_eq_true rfl, Nat.le_of_ble_eq_true rfl⟩ (aw_rs ?_)
  refine aw_ild10 X dL_isSo_686 rfl ?_
  refine aw_icmp_ne (n2 := 753) X dL_isSo_688 rfl rfl (fun c688 => absurd rfl c688) (fun c688 => ?_)
  refine aw_ald0 X dL_isSo_691 rfl ?_
  refine aw_bipush X (8) dL_isSo_692 (by decide) rfl ?_
  refine aw_callV X dL_isSo_694 rfl (r_man X.1 w (by decide) (man8 σ)) cmX6_many ml_L_40 rfl w.1 rfl rfl (Nat.le_of_ble_eq_true rfl) ⟨Nat.le_of_ble_eq_true rfl, Nat.le_of_ble_eq_true rfl⟩ (aw_rs ?_)
  refine aw_ild11 X dL_isSo_697 rfl ?_
  refine aw_icmp_ne (n2 := 753) X dL_isSo_699 rfl rfl (fun c699 => absurd rfl c699) (fun c699 => ?_)
  refine aw_ald0 X dL_isSo_702 rfl ?_
  refine aw_iconst X (0) dL_isSo_703 (by decide) rfl ?_
  refine aw_callV X dL_isSo_704 rfl (r_man X.1 w (by decide) (man0 σ)) cmX6_many ml_L_40 rfl w.1 rfl rfl (Nat.le_of_ble_eq_true rfl) ⟨Nat.le_of_ble_eq_true rfl, Nat.le_of_ble_eq_true rfl⟩ (aw_rs ?_)
  refine aw_sipush X (540) dL_isSo_707 (by decide) rfl ?_
  refine aw_icmp_gt (n2 := 753) X dL_isSo_710 rfl rfl (fun c710 => absurd c710 (Int32.not_lt.mpr hv.miB.2)) (fun c710 => ?_)
  refine aw_ald0 X dL_isSo_713 rfl ?_
  refine aw_bipush X (9) dL_isSo_714 (by decide) rfl ?_
  refine aw_callV X dL_isSo_716 rfl (r_man X.1 w (by decide) (man9 σ)) cmX6_many ml_L_40 rfl w.1 rfl rfl (Nat.le_of_ble_eq_true rfl) ⟨Nat.le_of_ble_eq_true rfl, Nat.le_of_ble_eq_true rfl⟩ (aw_rs ?_)
  refine aw_if_lt (n2 := 753) X dL_isSo_719 rfl rfl (fun c719 => absurd c719 (Int32.not_lt.mpr hv.tiB.1)) (fun c719 => ?_)
  refine aw_ald0 X dL_isSo_722 rfl ?_
  refine aw_bipush X (9) dL_isSo_723 (by decide) rfl ?_
  refine aw_callV X dL_isSo_725 rfl (r_man X.1 w (by decide) (man9 σ)) cmX6_many ml_L_40 rfl w.1 rfl rfl (Nat.le_of_ble_eq_true rfl) ⟨Nat.le_of_ble_eq_true rfl, Nat.le_of_ble_eq_true rfl⟩ (aw_rs ?_)
  refine aw_bipush X (100) dL_isSo_728 (by decide) rfl ?_
  refine aw_icmp_gt (n2 := 753) X dL_isSo_730 rfl rfl (fun c730 => absurd c730 (Int32.not_lt.mpr hv.tiB.2)) (fun c730 => ?_)
  refine aw_ald0 X dL_isSo_733 rfl ?_
  refine aw_bipush X (10) dL_isSo_734 (by decide) rfl ?_
  refine aw_callV X dL_isSo_736 rfl (r_man X.1 w (by decide) (man10 σ)) cmX6_many ml_L_40 rfl w.1 rfl rfl (Nat.le_of_ble_eq_true rfl) ⟨Nat.le_of_ble_eq_true rfl, Nat.le_of_ble_eq_true rfl⟩ (aw_rs ?_)
  refine aw_if_lt (n2 := 753) X dL_isSo_739 rfl rfl (fun c739 => absurd c739 (Int32.not_lt.mpr hv.beB.1)) (fun c739 => ?_)
  refine aw_ald0 X dL_isSo_742 rfl ?_
  refine aw_bipush X (10) dL_isSo_743 (by decide) rfl ?_
  refine aw_callV X dL_isSo_745 rfl (r_man X.1 w (by decide) (man10 σ)) cmX6_many ml_L_40 rfl w.1 rfl rfl (Nat.le_of_ble_eq_true rfl) ⟨Nat.le_of_ble_eq_true rfl, Nat.le_of_ble_eq_true rfl⟩ (aw_rs ?_)
  refine aw_bipush X (30) dL_isSo_748 (by decide) rfl ?_
  refine aw_icmp_le (n2 := 755) X dL_isSo_750 rfl rfl (fun c750 => ?_) (fun c750 => absurd hv.beB.2 c750)
  refine aw_ald0 X dL_isSo_755 rfl ?_
  refine aw_iconst X (0) dL_isSo_756 (by decide) rfl ?_
  refine aw_callV X dL_isSo_757 rfl (r_snd X.1 w (by decide) (ov0 _)) cmX6_sound ml_L_69 rfl w.1 rfl rfl (Nat.le_of_ble_eq_true rfl) ⟨Nat.le_of_ble_eq_true rfl, Nat.le_of_ble_eq_true rfl⟩ (aw_rs ?_)
  refine aw_ist12 X dL_isSo_760 rfl (by decide) rfl ?_
  refine aw_ild12 X dL_isSo_762 rfl ?_
  refine aw_if_ne (n2 := 772) X dL_isSo_764 rfl rfl (fun c764 => ?_) (fun c764 => ?_)
  · refine aw_ild12 X dL_isSo_772 rfl ?_
    refine aw_iconst X (1) dL_isSo_774 (by decide) rfl ?_
    refine aw_icmp_ne (n2 := 783) X dL_isSo_775 rfl rfl (fun c775 => ?_) (fun c775 => ?_)
    · refine aw_ild12 X dL_isSo_783 rfl ?_
      refine aw_iconst X (2) dL_isSo_785 (by decide) rfl ?_
      refine aw_icmp_ne (n2 := 794) X dL_isSo_786 rfl rfl (fun c786 => ?_) (fun c786 => ?_)
      · refine aw_bipush X (32) dL_isSo_794 (by decide) rfl ?_
        rw [show (32 : Int32) = cyc (σ.o 0) from by unfold cyc; rw [if_neg c764, if_neg c775, if_neg c786]]
        refine aw_ist13 X dL_isSo_796 rfl (by decide) rfl ?_
        exact is_snd X hret htg w hv
      · refine aw_bipush X (12) dL_isSo_789 (by decide) rfl ?_
        refine aw_goto (n := 796) X dL_isSo_791 rfl ?_
        rw [show (12 : Int32) = cyc (σ.o 0) from by unfold cyc; rw [if_neg c764, if_neg c775, if_pos c786]]
        refine aw_ist13 X dL_isSo_796 rfl (by decide) rfl ?_
        exact is_snd X hret htg w hv
    · refine aw_bipush X (16) dL_isSo_778 (by decide) rfl ?_
      refine aw_goto (n := 796) X dL_isSo_780 rfl ?_
      rw [show (16 : Int32) = cyc (σ.o 0) from by unfold cyc; rw [if_neg c764, if_pos c775]]
      refine aw_ist13 X dL_isSo_796 rfl (by decide) rfl ?_
      exact is_snd X hret htg w hv
  · refine aw_bipush X (8) dL_isSo_767 (by decide) rfl ?_
    refine aw_goto (n := 796) X dL_isSo_769 rfl ?_
    rw [show (8 : Int32) = cyc (σ.o 0) from by unfold cyc; rw [if_pos c764]]
    refine aw_ist13 X dL_isSo_796 rfl (by decide) rfl ?_
    exact is_snd X hret htg w hv

set_option maxHeartbeats 4000000 in
set_option maxRecDepth 100000 in
theorem is_str {p : Program} {l : Launch} {e : Env} {s0 s : State} {a0 : Array Value} {m : MethodId} {args : Array Value} {below : List Frame} {meth : Method} {c : Code} {G : GG} {h h0 : AH} {bc bs tg ke : Nat} {A : KA} {σ : NS} (X : MX p l s m meth c s0 a0 G cL_isSo yL_isSo.cls 16) (hret : meth.sig.returnType = some .boolean) (htg : tg ≠ 0) (w : KelW G h tg ke A σ) (hv : IV σ) {y3 y4 y5 y6 y7 y11 y12 y13 y14 y15 : Option Value} : AW p l e (rmv 10 0 0) s m args below meth c (MQ below (cQc s0 G tg h0 (ISQ G tg ke σ)) args s 0 0 (fun q => s0.heap.size ≤ q)) s0 G 16 tg h0 h bc bs 638 [some (.ref ke), some (.int σ.di), some (.int (setF σ.F σ.nf)), y3, y4, y5, y6, y7, some (.int (rB σ.S σ.ns)), some (.int (nB σ σ.ns)), some (.int (onS σ)), y11, y12, y13, y14, y15] [] := by
  refine aw_ild10 X dL_isSo_638 rfl ?_
  refine aw_if_ge (n2 := 647) X dL_isSo_640 rfl rfl (fun c640 => ?_) (fun c640 => ?_)
  · obtain ⟨i, hi, hon⟩ := (on_cases σ).resolve_left (fun z => by rw [z] at c640; exact absurd c640 (by decide))
    refine aw_ild2 X dL_isSo_647 rfl ?_
    refine aw_ald0 X dL_isSo_648 rfl ?_
    refine aw_ild10 X dL_isSo_649 rfl ?_
    refine aw_iconst X (2) dL_isSo_651 (by decide) rfl ?_
    refine aw_callV X dL_isSo_652 rfl (r_scn X.1 w hon hi (by decide) (sv2 σ _)) cmX6_ofScene ml_L_76 rfl w.1 rfl rfl (Nat.le_of_ble_eq_true rfl) ⟨Nat.le_of_ble_eq_true rfl, Nat.le_of_ble_eq_true rfl⟩ (aw_rs ?_)
    refine aw_iconst X (-1) dL_isSo_655 (by decide) rfl ?_
    refine aw_ixor X dL_isSo_656 rfl ?_
    refine aw_iand X dL_isSo_657 rfl ?_
    rw [show setF σ.F σ.nf &&& (σ.S i 2 ^^^ (-1)) = strS σ from by rw [str_is hv, if_neg (Int32.not_lt.mpr c640), hon, iN_nI (by have := hv.1.2.1; omega)]]
    refine aw_ist11 X dL_isSo_658 rfl (by decide) rfl ?_
    exact is_end X hret htg w hv
  · refine aw_ild2 X dL_isSo_643 rfl ?_
    refine aw_goto (n := 658) X dL_isSo_644 rfl ?_
    rw [show setF σ.F σ.nf = strS σ from by rw [str_is hv, if_pos (Int32.not_le.mp c640)]]
    refine aw_ist11 X dL_isSo_658 rfl (by decide) rfl ?_
    exact is_end X hret htg w hv

set_option maxHeartbeats 4000000 in
set_option maxRecDepth 100000 in
theorem is_kn {p : Program} {l : Launch} {e : Env} {s0 s : State} {a0 : Array Value} {m : MethodId} {args : Array Value} {below : List Frame} {meth : Method} {c : Code} {G : GG} {h h0 : AH} {bc bs tg ke : Nat} {A : KA} {σ : NS} (X : MX p l s m meth c s0 a0 G cL_isSo yL_isSo.cls 16) (hret : meth.sig.returnType = some .boolean) (htg : tg ≠ 0) (w : KelW G h tg ke A σ) (hv : IV σ) {y2 y3 y4 y5 y6 y12 y13 y14 y15 : Option Value} {v7 v10 : Int32} {Q : State → Prop} {u8 u9 x1 : Int32} {k : Nat} (hxk : x1 = nI k) (hk : k < σ.ns) (kk : ∀ y12 y13 y14 : Option Value, AW p l e (rmv 10 0 0) s m args below meth c Q s0 G 16 tg h0 h bc bs 348 [some (.ref ke), some (.int σ.di), y2, y3, y4, y5, y6, some (.int v7), some (.int u8), some (.int u9), some (.int v10), some (.int (x1 + 1)), y12, y13, y14, y15] []) : AW p l e (rmv 10 0 0) s m args below meth c Q s0 G 16 tg h0 h bc bs 482 [some (.ref ke), some (.int σ.di), y2, y3, y4, y5, y6, some (.int v7), some (.int u8), some (.int u9), some (.int v10), some (.int x1), y12, y13, y14, y15] [] := by
  have hn8 := hv.1.1
  have hn10 := hv.1.2.1
  refine aw_iconst X (0) dL_isSo_482 (by decide) rfl ?_
  refine aw_ist12 X dL_isSo_483 rfl (by decide) rfl ?_
  refine aw_dn (n := σ.np) (A := fun j i => ∀ (y13 : Option Value), ∀ (y14 : Option Value), ∀ (x : Int32), (x = nI i) → AW p l e _ s m _ below meth c _ s0 G 16 tg _ h bc bs 485 [some (.ref ke), some (.int σ.di), y2, y3, y4, y5, y6, some (.int v7), some (.int u8), some (.int u9), some (.int v10), some (.int x1), some (.int x), y13, y14, y15] []) ?_ ?_ σ.np 0 rfl _ _ 0 nI_0.symm
  · intro y13 y14 x hxi
    refine aw_ild12 X dL_isSo_485 rfl ?_
    refine aw_ald0 X dL_isSo_487 rfl ?_
    refine aw_iconst X (1) dL_isSo_488 (by decide) rfl ?_
    refine aw_callV X dL_isSo_489 rfl (r_man X.1 w (by decide) (man1 σ)) cmX6_many ml_L_40 rfl w.1 rfl rfl (Nat.le_of_ble_eq_true rfl) ⟨Nat.le_of_ble_eq_true rfl, Nat.le_of_ble_eq_true rfl⟩ (aw_rs ?_)
    refine aw_icmp_ge (n2 := 632) X dL_isSo_492 rfl rfl (fun c492 => ?_) (fun c492 => absurd (ge_t hxi (Nat.le_refl _) (by omega)) c492)
    refine aw_iinc11 X (1) dL_isSo_632 (by decide) rfl (by decide) rfl ?_
    refine aw_goto (n := 348) X dL_isSo_635 rfl ?_
    exact kk _ _ _
  · intro j i hji ih y13 y14 x hxi
    have hi : i < σ.np := by omega
    refine aw_ild12 X dL_isSo_485 rfl ?_
    refine aw_ald0 X dL_isSo_487 rfl ?_
    refine aw_iconst X (1) dL_isSo_488 (by decide) rfl ?_
    refine aw_callV X dL_isSo_489 rfl (r_man X.1 w (by decide) (man1 σ)) cmX6_many ml_L_40 rfl w.1 rfl rfl (Nat.le_of_ble_eq_true rfl) ⟨Nat.le_of_ble_eq_true rfl, Nat.le_of_ble_eq_true rfl⟩ (aw_rs ?_)
    refine aw_icmp_ge (n2 := 632) X dL_isSo_492 rfl rfl (fun c492 => absurd c492 (ge_f hxi (by omega) (by omega))) (fun c492 => ?_)
    refine aw_ald0 X dL_isSo_495 rfl ?_
    refine aw_ild12 X dL_isSo_496 rfl ?_
    refine aw_ild11 X dL_isSo_498 rfl ?_
    refine aw_callV X dL_isSo_500 rfl (r_kn X.1 w hxi hi (k := k + 1) (by rw [hxk, ← nI_1, Int32.add_sub_cancel]) (by omega)) cmX6_knows ml_L_131 rfl w.1 rfl rfl (Nat.le_of_ble_eq_true rfl) ⟨Nat.le_of_ble_eq_true rfl, Nat.le_of_ble_eq_true rfl⟩ (aw_rs ?_)
    have hcs : (bt (KN σ (k + 1)) i = true ∧ bt (KN σ k) i = true) ∨ (¬ bt (KN σ (k + 1)) i = true ∧ ¬ bt (KN σ k) i = true) ∨ (bt (KN σ (k + 1)) i = true ∧ ¬ bt (KN σ k) i = true) := by
      by_cases z0 : bt (KN σ k) i = true
      · exact Or.inl ⟨KN_up z0, z0⟩
      · by_cases z1 : bt (KN σ (k + 1)) i = true
        · exact Or.inr (Or.inr ⟨z1, z0⟩)
        · exact Or.inr (Or.inl ⟨z1, z0⟩)
    rcases hcs with ⟨z1, z0⟩ | ⟨z1, z0⟩ | ⟨z1, z0⟩
    · rw [if_pos z1]
      refine aw_ist13 X dL_isSo_503 rfl (by decide) rfl ?_
      refine aw_ald0 X dL_isSo_505 rfl ?_
      refine aw_ild11 X dL_isSo_506 rfl ?_
      refine aw_iconst X (5) dL_isSo_508 (by decide) rfl ?_
      refine aw_callV X dL_isSo_509 rfl (r_scn X.1 w hxk hk (by decide) (sv5 σ _)) cmX6_ofScene ml_L_76 rfl w.1 rfl rfl (Nat.le_of_ble_eq_true rfl) ⟨Nat.le_of_ble_eq_true rfl, Nat.le_of_ble_eq_true rfl⟩ (aw_rs ?_)
      refine aw_ist14 X dL_isSo_512 rfl (by decide) rfl ?_
      refine aw_ild13 X dL_isSo_514 rfl ?_
      refine aw_if_ne (n2 := 555) X dL_isSo_516 rfl rfl (fun c516 => ?_) (fun c516 => absurd c516 (by decide))
      refine aw_ald0 X dL_isSo_555 rfl ?_
      refine aw_ild12 X dL_isSo_556 rfl ?_
      refine aw_ild11 X dL_isSo_558 rfl ?_
      refine aw_iconst X (1) dL_isSo_560 (by decide) rfl ?_
      refine aw_isub X dL_isSo_561 rfl ?_
      refine aw_callV X dL_isSo_562 rfl (r_kn X.1 w hxi hi (k := k) (by rw [hxk]) (by omega)) cmX6_knows ml_L_131 rfl w.1 rfl rfl (Nat.le_of_ble_eq_true rfl) ⟨Nat.le_of_ble_eq_true rfl, Nat.le_of_ble_eq_true rfl⟩ (aw_rs ?_)
      rw [if_pos z0]
      refine aw_if_eq (n2 := 573) X dL_isSo_565 rfl rfl (fun c565 => absurd c565 (by decide)) (fun c565 => ?_)
      refine aw_ild13 X dL_isSo_568 rfl ?_
      refine aw_if_eq (n2 := 624) X dL_isSo_570 rfl rfl (fun c570 => absurd c570 (by decide)) (fun c570 => ?_)
      refine aw_ild13 X dL_isSo_573 rfl ?_
      refine aw_if_eq (n2 := 626) X dL_isSo_575 rfl rfl (fun c575 => absurd c575 (by decide)) (fun c575 => ?_)
      refine aw_ald0 X dL_isSo_578 rfl ?_
      refine aw_ild12 X dL_isSo_579 rfl ?_
      refine aw_ild11 X dL_isSo_581 rfl ?_
      refine aw_iconst X (1) dL_isSo_583 (by decide) rfl ?_
      refine aw_isub X dL_isSo_584 rfl ?_
      refine aw_callV X dL_isSo_585 rfl (r_kn X.1 w hxi hi (k := k) (by rw [hxk]) (by omega)) cmX6_knows ml_L_131 rfl w.1 rfl rfl (Nat.le_of_ble_eq_true rfl) ⟨Nat.le_of_ble_eq_true rfl, Nat.le_of_ble_eq_true rfl⟩ (aw_rs ?_)
      rw [if_pos z0]
      refine aw_if_ne (n2 := 626) X dL_isSo_588 rfl rfl (fun c588 => ?_) (fun c588 => absurd c588 (by decide))
      refine aw_iinc12 X (1) dL_isSo_626 (by decide) rfl (by decide) rfl ?_
      refine aw_goto (n := 485) X dL_isSo_629 rfl ?_
      exact ih _ _ (x + 1) (nx hxi)
    · rw [if_neg z1]
      refine aw_ist13 X dL_isSo_503 rfl (by decide) rfl ?_
      refine aw_ald0 X dL_isSo_505 rfl ?_
      refine aw_ild11 X dL_isSo_506 rfl ?_
      refine aw_iconst X (5) dL_isSo_508 (by decide) rfl ?_
      refine aw_callV X dL_isSo_509 rfl (r_scn X.1 w hxk hk (by decide) (sv5 σ _)) cmX6_ofScene ml_L_76 rfl w.1 rfl rfl (Nat.le_of_ble_eq_true rfl) ⟨Nat.le_of_ble_eq_true rfl, Nat.le_of_ble_eq_true rfl⟩ (aw_rs ?_)
      refine aw_ist14 X dL_isSo_512 rfl (by decide) rfl ?_
      refine aw_ild13 X dL_isSo_514 rfl ?_
      refine aw_if_ne (n2 := 555) X dL_isSo_516 rfl rfl (fun c516 => absurd rfl c516) (fun c516 => ?_)
      refine aw_ild14 X dL_isSo_519 rfl ?_
      refine aw_if_lt (n2 := 555) X dL_isSo_521 rfl rfl (fun c521 => ?_) (fun c521 => ?_)
      · refine aw_ald0 X dL_isSo_555 rfl ?_
        refine aw_ild12 X dL_isSo_556 rfl ?_
        refine aw_ild11 X dL_isSo_558 rfl ?_
        refine aw_iconst X (1) dL_isSo_560 (by decide) rfl ?_
        refine aw_isub X dL_isSo_561 rfl ?_
        refine aw_callV X dL_isSo_562 rfl (r_kn X.1 w hxi hi (k := k) (by rw [hxk]) (by omega)) cmX6_knows ml_L_131 rfl w.1 rfl rfl (Nat.le_of_ble_eq_true rfl) ⟨Nat.le_of_ble_eq_true rfl, Nat.le_of_ble_eq_true rfl⟩ (aw_rs ?_)
        rw [if_neg z0]
        refine aw_if_eq (n2 := 573) X dL_isSo_565 rfl rfl (fun c565 => ?_) (fun c565 => absurd rfl c565)
        refine aw_ild13 X dL_isSo_573 rfl ?_
        refine aw_if_eq (n2 := 626) X dL_isSo_575 rfl rfl (fun c575 => ?_) (fun c575 => absurd rfl c575)
        refine aw_iinc12 X (1) dL_isSo_626 (by decide) rfl (by decide) rfl ?_
        refine aw_goto (n := 485) X dL_isSo_629 rfl ?_
        exact ih _ _ (x + 1) (nx hxi)
      · obtain ⟨t9, ht9, et9⟩ : ∃ i, i < σ.np ∧ σ.S k 5 = nI i := (hv.sv.te hv.1.1 hk).resolve_left (fun z => by rw [z] at c521; exact absurd (by decide) c521)
        refine aw_ald0 X dL_isSo_524 rfl ?_
        refine aw_ild14 X dL_isSo_525 rfl ?_
        refine aw_ild11 X dL_isSo_527 rfl ?_
        refine aw_iconst X (1) dL_isSo_529 (by decide) rfl ?_
        refine aw_isub X dL_isSo_530 rfl ?_
        refine aw_callV X dL_isSo_531 rfl (r_kn X.1 w et9 ht9 (k := k) (by rw [hxk]) (by omega)) cmX6_knows ml_L_131 rfl w.1 rfl rfl (Nat.le_of_ble_eq_true rfl) ⟨Nat.le_of_ble_eq_true rfl, Nat.le_of_ble_eq_true rfl⟩ (aw_rs ?_)
        skip
        refine aw_if_eq (n2 := 555) X dL_isSo_534 rfl rfl (fun c534 => ?_) (fun c534 => ?_)
        · refine aw_ald0 X dL_isSo_555 rfl ?_
          refine aw_ild12 X dL_isSo_556 rfl ?_
          refine aw_ild11 X dL_isSo_558 rfl ?_
          refine aw_iconst X (1) dL_isSo_560 (by decide) rfl ?_
          refine aw_isub X dL_isSo_561 rfl ?_
          refine aw_callV X dL_isSo_562 rfl (r_kn X.1 w hxi hi (k := k) (by rw [hxk]) (by omega)) cmX6_knows ml_L_131 rfl w.1 rfl rfl (Nat.le_of_ble_eq_true rfl) ⟨Nat.le_of_ble_eq_true rfl, Nat.le_of_ble_eq_true rfl⟩ (aw_rs ?_)
          rw [if_neg z0]
          refine aw_if_eq (n2 := 573) X dL_isSo_565 rfl rfl (fun c565 => ?_) (fun c565 => absurd rfl c565)
          refine aw_ild13 X dL_isSo_573 rfl ?_
          refine aw_if_eq (n2 := 626) X dL_isSo_575 rfl rfl (fun c575 => ?_) (fun c575 => absurd rfl c575)
          refine aw_iinc12 X (1) dL_isSo_626 (by decide) rfl (by decide) rfl ?_
          refine aw_goto (n := 485) X dL_isSo_629 rfl ?_
          exact ih _ _ (x + 1) (nx hxi)
        · have zt : bt (KN σ k) t9 = true := by
            by_cases q : bt (KN σ k) t9 = true
            · exact q
            · exact absurd (if_neg q) c534
          refine aw_ald0 X dL_isSo_537 rfl ?_
          refine aw_ild11 X dL_isSo_538 rfl ?_
          refine aw_iconst X (2) dL_isSo_540 (by decide) rfl ?_
          refine aw_callV X dL_isSo_541 rfl (r_scn X.1 w hxk hk (by decide) (sv2 σ _)) cmX6_ofScene ml_L_76 rfl w.1 rfl rfl (Nat.le_of_ble_eq_true rfl) ⟨Nat.le_of_ble_eq_true rfl, Nat.le_of_ble_eq_true rfl⟩ (aw_rs ?_)
          refine aw_ild12 X dL_isSo_544 rfl ?_
          refine aw_ishr X dL_isSo_546 rfl ?_
          refine aw_iconst X (1) dL_isSo_547 (by decide) rfl ?_
          refine aw_iand X dL_isSo_548 rfl ?_
          refine aw_iconst X (1) dL_isSo_549 (by decide) rfl ?_
          refine aw_icmp_ne (n2 := 555) X dL_isSo_550 rfl rfl (fun c550 => ?_) (fun c550 => absurd c550 (by rw [hxi]; exact fun q => z1 (KN_te (by omega) et9 zt ((bt_1 (by omega)).mp q))))
          refine aw_ald0 X dL_isSo_555 rfl ?_
          refine aw_ild12 X dL_isSo_556 rfl ?_
          refine aw_ild11 X dL_isSo_558 rfl ?_
          refine aw_iconst X (1) dL_isSo_560 (by decide) rfl ?_
          refine aw_isub X dL_isSo_561 rfl ?_
          refine aw_callV X dL_isSo_562 rfl (r_kn X.1 w hxi hi (k := k) (by rw [hxk]) (by omega)) cmX6_knows ml_L_131 rfl w.1 rfl rfl (Nat.le_of_ble_eq_true rfl) ⟨Nat.le_of_ble_eq_true rfl, Nat.le_of_ble_eq_true rfl⟩ (aw_rs ?_)
          rw [if_neg z0]
          refine aw_if_eq (n2 := 573) X dL_isSo_565 rfl rfl (fun c565 => ?_) (fun c565 => absurd rfl c565)
          refine aw_ild13 X dL_isSo_573 rfl ?_
          refine aw_if_eq (n2 := 626) X dL_isSo_575 rfl rfl (fun c575 => ?_) (fun c575 => absurd rfl c575)
          refine aw_iinc12 X (1) dL_isSo_626 (by decide) rfl (by decide) rfl ?_
          refine aw_goto (n := 485) X dL_isSo_629 rfl ?_
          exact ih _ _ (x + 1) (nx hxi)
    · rw [if_pos z1]
      obtain ⟨zc, zh⟩ := KN_new z1 z0
      refine aw_ist13 X dL_isSo_503 rfl (by decide) rfl ?_
      refine aw_ald0 X dL_isSo_505 rfl ?_
      refine aw_ild11 X dL_isSo_506 rfl ?_
      refine aw_iconst X (5) dL_isSo_508 (by decide) rfl ?_
      refine aw_callV X dL_isSo_509 rfl (r_scn X.1 w hxk hk (by decide) (sv5 σ _)) cmX6_ofScene ml_L_76 rfl w.1 rfl rfl (Nat.le_of_ble_eq_true rfl) ⟨Nat.le_of_ble_eq_true rfl, Nat.le_of_ble_eq_true rfl⟩ (aw_rs ?_)
      refine aw_ist14 X dL_isSo_512 rfl (by decide) rfl ?_
      refine aw_ild13 X dL_isSo_514 rfl ?_
      refine aw_if_ne (n2 := 555) X dL_isSo_516 rfl rfl (fun c516 => ?_) (fun c516 => absurd c516 (by decide))
      refine aw_ald0 X dL_isSo_555 rfl ?_
      refine aw_ild12 X dL_isSo_556 rfl ?_
      refine aw_ild11 X dL_isSo_558 rfl ?_
      refine aw_iconst X (1) dL_isSo_560 (by decide) rfl ?_
      refine aw_isub X dL_isSo_561 rfl ?_
      refine aw_callV X dL_isSo_562 rfl (r_kn X.1 w hxi hi (k := k) (by rw [hxk]) (by omega)) cmX6_knows ml_L_131 rfl w.1 rfl rfl (Nat.le_of_ble_eq_true rfl) ⟨Nat.le_of_ble_eq_true rfl, Nat.le_of_ble_eq_true rfl⟩ (aw_rs ?_)
      rw [if_neg z0]
      refine aw_if_eq (n2 := 573) X dL_isSo_565 rfl rfl (fun c565 => ?_) (fun c565 => absurd rfl c565)
      refine aw_ild13 X dL_isSo_573 rfl ?_
      refine aw_if_eq (n2 := 626) X dL_isSo_575 rfl rfl (fun c575 => absurd c575 (by decide)) (fun c575 => ?_)
      refine aw_ald0 X dL_isSo_578 rfl ?_
      refine aw_ild12 X dL_isSo_579 rfl ?_
      refine aw_ild11 X dL_isSo_581 rfl ?_
      refine aw_iconst X (1) dL_isSo_583 (by decide) rfl ?_
      refine aw_isub X dL_isSo_584 rfl ?_
      refine aw_callV X dL_isSo_585 rfl (r_kn X.1 w hxi hi (k := k) (by rw [hxk]) (by omega)) cmX6_knows ml_L_131 rfl w.1 rfl rfl (Nat.le_of_ble_eq_true rfl) ⟨Nat.le_of_ble_eq_true rfl, Nat.le_of_ble_eq_true rfl⟩ (aw_rs ?_)
      rw [if_neg z0]
      refine aw_if_ne (n2 := 626) X dL_isSo_588 rfl rfl (fun c588 => absurd rfl c588) (fun c588 => ?_)
      refine aw_ald0 X dL_isSo_591 rfl ?_
      refine aw_ild11 X dL_isSo_592 rfl ?_
      refine aw_iconst X (2) dL_isSo_594 (by decide) rfl ?_
      refine aw_callV X dL_isSo_595 rfl (r_scn X.1 w hxk hk (by decide) (sv2 σ _)) cmX6_ofScene ml_L_76 rfl w.1 rfl rfl (Nat.le_of_ble_eq_true rfl) ⟨Nat.le_of_ble_eq_true rfl, Nat.le_of_ble_eq_true rfl⟩ (aw_rs ?_)
      refine aw_ild12 X dL_isSo_598 rfl ?_
      refine aw_ishr X dL_isSo_600 rfl ?_
      refine aw_iconst X (1) dL_isSo_601 (by decide) rfl ?_
      refine aw_iand X dL_isSo_602 rfl ?_
      refine aw_if_eq (n2 := 624) X dL_isSo_603 rfl rfl (fun c603 => absurd c603 (by rw [hxi]; exact fun q => (bt_0 (by omega)).mp q zc)) (fun c603 => ?_)
      refine aw_ild14 X dL_isSo_606 rfl ?_
      refine aw_if_lt (n2 := 624) X dL_isSo_608 rfl rfl (fun c608 => absurd c608 (Int32.not_lt.mpr zh.1)) (fun c608 => ?_)
      obtain ⟨t9, ht9, et9⟩ : ∃ i, i < σ.np ∧ σ.S k 5 = nI i := (hv.sv.te hv.1.1 hk).resolve_left (fun z => by rw [z] at zh; exact holds_m1 zh)
      refine aw_ald0 X dL_isSo_611 rfl ?_
      refine aw_ild14 X dL_isSo_612 rfl ?_
      refine aw_ild11 X dL_isSo_614 rfl ?_
      refine aw_iconst X (1) dL_isSo_616 (by decide) rfl ?_
      refine aw_isub X dL_isSo_617 rfl ?_
      refine aw_callV X dL_isSo_618 rfl (r_kn X.1 w et9 ht9 (k := k) (by rw [hxk]) (by omega)) cmX6_knows ml_L_131 rfl w.1 rfl rfl (Nat.le_of_ble_eq_true rfl) ⟨Nat.le_of_ble_eq_true rfl, Nat.le_of_ble_eq_true rfl⟩ (aw_rs ?_)
      rw [if_pos ((holds_bt (by omega)).mp (by rw [← et9]; exact zh))]
      refine aw_if_ne (n2 := 626) X dL_isSo_621 rfl rfl (fun c621 => ?_) (fun c621 => absurd c621 (by decide))
      refine aw_iinc12 X (1) dL_isSo_626 (by decide) rfl (by decide) rfl ?_
      refine aw_goto (n := 485) X dL_isSo_629 rfl ?_
      exact ih _ _ (x + 1) (nx hxi)

set_option maxHeartbeats 4000000 in
set_option maxRecDepth 100000 in
theorem is_ah {p : Program} {l : Launch} {e : Env} {s0 s : State} {a0 : Array Value} {m : MethodId} {args : Array Value} {below : List Frame} {meth : Method} {c : Code} {G : GG} {h h0 : AH} {bc bs tg ke : Nat} {A : KA} {σ : NS} (X : MX p l s m meth c s0 a0 G cL_isSo yL_isSo.cls 16) (hret : meth.sig.returnType = some .boolean) (htg : tg ≠ 0) (w : KelW G h tg ke A σ) (hv : IV σ) {y2 y3 y4 y5 y6 y12 y13 y14 y15 : Option Value} {v7 v10 : Int32} {Q : State → Prop} {x1 : Int32} {k : Nat} (hxk : x1 = nI k) (hk : k < σ.ns) (kk : ∀ y12 y13 y14 : Option Value, AW p l e (rmv 10 0 0) s m args below meth c Q s0 G 16 tg h0 h bc bs 348 [some (.ref ke), some (.int σ.di), y2, y3, y4, y5, y6, some (.int v7), some (.int (rB σ.S (k + 1))), some (.int (nB σ (k + 1))), some (.int v10), some (.int (x1 + 1)), y12, y13, y14, y15] []) : AW p l e (rmv 10 0 0) s m args below meth c Q s0 G 16 tg h0 h bc bs 449 [some (.ref ke), some (.int σ.di), y2, y3, y4, y5, y6, some (.int v7), some (.int (rB σ.S k)), some (.int (nB σ k)), some (.int v10), some (.int x1), y12, y13, y14, y15] [] := by
  have hn8 := hv.1.1
  have hn10 := hv.1.2.1
  refine aw_ild8 X dL_isSo_449 rfl ?_
  refine aw_ald0 X dL_isSo_451 rfl ?_
  refine aw_ild11 X dL_isSo_452 rfl ?_
  refine aw_iconst X (3) dL_isSo_454 (by decide) rfl ?_
  refine aw_callV X dL_isSo_455 rfl (r_scn X.1 w hxk hk (by decide) (sv3 σ _)) cmX6_ofScene ml_L_76 rfl w.1 rfl rfl (Nat.le_of_ble_eq_true rfl) ⟨Nat.le_of_ble_eq_true rfl, Nat.le_of_ble_eq_true rfl⟩ (aw_rs ?_)
  refine aw_iadd X dL_isSo_458 rfl ?_
  rw [show rB σ.S k + σ.S k 3 = rB σ.S (k + 1) from rfl]
  refine aw_ist8 X dL_isSo_459 rfl (by decide) rfl ?_
  refine aw_ild9 X dL_isSo_461 rfl ?_
  refine aw_ald0 X dL_isSo_463 rfl ?_
  refine aw_ild11 X dL_isSo_464 rfl ?_
  refine aw_bipush X (8) dL_isSo_466 (by decide) rfl ?_
  refine aw_callV X dL_isSo_468 rfl (r_scn X.1 w hxk hk (by decide) (sv8 σ _)) cmX6_ofScene ml_L_76 rfl w.1 rfl rfl (Nat.le_of_ble_eq_true rfl) ⟨Nat.le_of_ble_eq_true rfl, Nat.le_of_ble_eq_true rfl⟩ (aw_rs ?_)
  refine aw_if_le (n2 := 478) X dL_isSo_471 rfl rfl (fun c471 => ?_) (fun c471 => ?_)
  · refine aw_iconst X (0) dL_isSo_478 (by decide) rfl ?_
    refine aw_iadd X dL_isSo_479 rfl ?_
    rw [show nB σ k + 0 = nB σ (k + 1) from by rw [nB_s, if_pos c471]]
    refine aw_ist9 X dL_isSo_480 rfl (by decide) rfl ?_
    exact is_kn X hret htg w hv hxk hk kk
  · refine aw_iconst X (1) dL_isSo_474 (by decide) rfl ?_
    refine aw_goto (n := 479) X dL_isSo_475 rfl ?_
    refine aw_iadd X dL_isSo_479 rfl ?_
    rw [show nB σ k + 1 = nB σ (k + 1) from by rw [nB_s, if_neg c471]]
    refine aw_ist9 X dL_isSo_480 rfl (by decide) rfl ?_
    exact is_kn X hret htg w hv hxk hk kk
