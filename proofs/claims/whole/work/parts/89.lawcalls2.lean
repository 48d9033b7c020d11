/-! ===== the law: its calls, 2 ===== -/
set_option maxRecDepth 100000 in
set_option maxHeartbeats 4000000 in
theorem LC_8 {g : GP} {b L : Nat} {xs : Nat → Int32} {kk nn i q : Nat} {σ : AH} (hL : L < 1073741824) (hi : i + 6 < L) (hq : q < 512) (h : Rel q σ) (kt : ∀ σ', Rel (q + 1) σ' → V g mLaw (ELw b) (CXl g b L xs) kk nn 1987 [(0, .ref 1), (1, .ref 2), (2, .ref 33), (3, .ref 72), (4, .int (nI i))] [] σ') :
    V g mLaw (ELw b) (CXl g b L xs) (kk + 11) (nn + 94) 762 [(0, .ref 1), (1, .ref 2), (2, .ref 33), (3, .ref 72), (4, .int (nI i))] [] σ := by
  refine V_aload_n dW_762 rfl ?_
  refine V_aload_n dW_763 rfl ?_
  refine V_iload dW_764 rfl ?_
  refine V_iconst (1 : Int32) dW_766 (by decide) ?_
  refine V_iadd dW_767 ?_
  refine V_sldj (j := 1) rfl (by omega) hL dW_768 ?_
  refine V_aload_n dW_769 rfl ?_
  refine V_iload dW_770 rfl ?_
  refine V_iconst (2 : Int32) dW_772 (by decide) ?_
  refine V_iadd dW_773 ?_
  refine V_sldj (j := 2) rfl (by omega) hL dW_774 ?_
  refine V_aload_n dW_775 rfl ?_
  refine V_iload dW_776 rfl ?_
  refine V_iconst (3 : Int32) dW_778 (by decide) ?_
  refine V_iadd dW_779 ?_
  refine V_sldj (j := 3) rfl (by omega) hL dW_780 ?_
  refine V_aload_n dW_781 rfl ?_
  refine V_iload dW_782 rfl ?_
  refine V_iconst (4 : Int32) dW_784 (by decide) ?_
  refine V_iadd dW_785 ?_
  refine V_sldj (j := 4) rfl (by omega) hL dW_786 ?_
  refine V_aload_n dW_787 rfl ?_
  refine V_callSH (as := [.ref 2, .int (xs (i + 1)), .int (xs (i + 2)), .int (xs (i + 3)), .int (xs (i + 4)), .ref 72]) (st := []) (k' := kk) (n' := nn) (R_leg hq h) mw_L_leg w_658 w_657 ar_L_leg (rf_L rfl rfl rfl rfl rfl) dW_788 (fun σ1 rv hq1 => ?_)
  obtain ⟨e, rfl, hS1, hm⟩ := hq1
  refine V_cast (st' := [.int e]) rfl rfl rfl ?_
  refine V_istore [(0, .ref 1), (1, .ref 2), (2, .ref 33), (3, .ref 72), (4, .int (nI i)), (5, .int e)] dW_791 rfl rfl ?_
  refine V_aload_n dW_793 rfl ?_
  refine V_aload_n dW_794 rfl ?_
  refine V_iload dW_795 rfl ?_
  refine V_iconst (1 : Int32) dW_797 (by decide) ?_
  refine V_iadd dW_798 ?_
  refine V_sldj (j := 1) rfl (by omega) hL dW_799 ?_
  refine V_aload_n dW_800 rfl ?_
  refine V_iload dW_801 rfl ?_
  refine V_iconst (2 : Int32) dW_803 (by decide) ?_
  refine V_iadd dW_804 ?_
  refine V_sldj (j := 2) rfl (by omega) hL dW_805 ?_
  refine V_aload_n dW_806 rfl ?_
  refine V_iload dW_807 rfl ?_
  refine V_iconst (3 : Int32) dW_809 (by decide) ?_
  refine V_iadd dW_810 ?_
  refine V_sldj (j := 3) rfl (by omega) hL dW_811 ?_
  refine V_aload_n dW_812 rfl ?_
  refine V_iload dW_813 rfl ?_
  refine V_iconst (4 : Int32) dW_815 (by decide) ?_
  refine V_iadd dW_816 ?_
  refine V_sldj (j := 4) rfl (by omega) hL dW_817 ?_
  refine V_callV (as := [.int (xs (i + 1)), .int (xs (i + 2)), .int (xs (i + 3)), .int (xs (i + 4))]) (st := []) (k' := kk) (n' := nn) hm mw_X12_leg ko_X12 rfl w_1258 w_1259 w_1257 ar_X12_leg (rf_M rfl rfl rfl rfl rfl) dW_818 (by decide) (shk hS1 33 rfl) (fun σ2 rv hq2 => ?_)
  obtain ⟨e49, hR, d, rfl, hb⟩ := hq2
  refine V_cast (st' := [.int d]) rfl rfl rfl ?_
  refine V_istore [(0, .ref 1), (1, .ref 2), (2, .ref 33), (3, .ref 72), (4, .int (nI i)), (5, .int e), (6, .int d)] dW_821 rfl rfl ?_
  refine V_aload_n dW_823 rfl ?_
  refine V_callV1 (as := []) (st := []) (k' := kk) (n' := nn) (s_X12_thrown hR.2.1) mw_X12_thrown ko_X12 rfl w_1208 w_1209 w_1207 ar_X12_thrown rfl (rf_M rfl rfl rfl rfl rfl) dW_824 (by decide) (shk hR.2.1 33 rfl) ?_
  refine V_iload dW_827 rfl ?_
  refine V_icmp_eq 834 dW_829 rfl (fun _ => ?_) (fun c => absurd e49 c)
  refine V_iload dW_834 rfl ?_
  refine V_if_ne 851 dW_836 rfl (fun _ => ?_) (fun ck => ?_)
  · refine V_goto 1987 dW_851 rfl ?_
    exact V_less (fun q hq => List.mem_append_left [(5, .int e), (6, .int d)] hq) (Nat.le_refl _) (Nat.le_refl _) (kt σ2 hR)
  · refine V_aload_n dW_839 rfl ?_
    refine V_iconst (0 : Int32) dW_840 (by decide) ?_
    refine V_lald dW_841 (by decide) (shk hR.2.1 72 rfl) (vp_l (n := 1) (shl hR.2.1 72 rfl) (vp_in_nI (n := 0) (by decide) (by decide))) ?_
    refine V_iload dW_842 rfl ?_
    refine V_i2l dW_844 ?_
    refine V_lcmp dW_845 ?_
    refine V_if_eq 851 dW_846 rfl (fun _ => ?_) (fun c => absurd (lc_eq (hb ck)) c)
    refine V_goto 1987 dW_851 rfl ?_
    exact V_less (fun q hq => List.mem_append_left [(5, .int e), (6, .int d)] hq) (Nat.le_refl _) (Nat.le_refl _) (kt σ2 hR)
set_option maxRecDepth 100000 in
set_option maxHeartbeats 4000000 in
theorem LC_9 {g : GP} {b L : Nat} {xs : Nat → Int32} {kk nn i q : Nat} {σ : AH} (hL : L < 1073741824) (hi : i + 6 < L) (hq : q < 512) (h : Rel q σ) (kt : ∀ σ', Rel (q + 1) σ' → V g mLaw (ELw b) (CXl g b L xs) kk nn 1987 [(0, .ref 1), (1, .ref 2), (2, .ref 33), (3, .ref 72), (4, .int (nI i))] [] σ') :
    V g mLaw (ELw b) (CXl g b L xs) (kk + 11) (nn + 94) 854 [(0, .ref 1), (1, .ref 2), (2, .ref 33), (3, .ref 72), (4, .int (nI i))] [] σ := by
  refine V_aload_n dW_854 rfl ?_
  refine V_callV (as := []) (st := []) (k' := kk) (n' := nn) (R_wipe hq h) mw_X11_wipe ko_X11 rfl w_267 w_268 w_266 ar_X11_wipe (rf_L rfl rfl rfl rfl rfl) dW_855 (by decide) (shk h.2.1 2 rfl) (fun σ1 rv hq1 => ?_)
  obtain ⟨e, rfl, hS1, hm⟩ := hq1
  refine V_cast (st' := [.int e]) rfl rfl rfl ?_
  refine V_aload_n dW_858 rfl ?_
  refine V_callV (as := []) (st := [.int e]) (k' := kk) (n' := nn) hm mw_X12_wipe ko_X12 rfl w_1262 w_1263 w_1261 ar_X12_wipe (rf_M rfl rfl rfl rfl rfl) dW_859 (by decide) (shk hS1 33 rfl) (fun σ2 rv hq2 => ?_)
  obtain ⟨rfl, hR⟩ := hq2
  refine V_cast (st' := [.int e, .int e]) rfl rfl rfl ?_
  refine V_icmp_eq 1987 dW_862 rfl (fun _ => ?_) (fun c => absurd rfl c)
  exact V_less (fun q hq => List.mem_append_left [] hq) (Nat.le_refl _) (Nat.le_refl _) (kt σ2 hR)
set_option maxRecDepth 100000 in
set_option maxHeartbeats 4000000 in
theorem LC_10 {g : GP} {b L : Nat} {xs : Nat → Int32} {kk nn i q : Nat} {σ : AH} (hL : L < 1073741824) (hi : i + 6 < L) (hq : q < 512) (h : Rel q σ) (kt : ∀ σ', Rel (q + 1) σ' → V g mLaw (ELw b) (CXl g b L xs) kk nn 1987 [(0, .ref 1), (1, .ref 2), (2, .ref 33), (3, .ref 72), (4, .int (nI i))] [] σ') :
    V g mLaw (ELw b) (CXl g b L xs) (kk + 11) (nn + 94) 867 [(0, .ref 1), (1, .ref 2), (2, .ref 33), (3, .ref 72), (4, .int (nI i))] [] σ := by
  refine V_aload_n dW_867 rfl ?_
  refine V_aload_n dW_868 rfl ?_
  refine V_iload dW_869 rfl ?_
  refine V_iconst (1 : Int32) dW_871 (by decide) ?_
  refine V_iadd dW_872 ?_
  refine V_sldj (j := 1) rfl (by omega) hL dW_873 ?_
  refine V_aload_n dW_874 rfl ?_
  refine V_iload dW_875 rfl ?_
  refine V_iconst (2 : Int32) dW_877 (by decide) ?_
  refine V_iadd dW_878 ?_
  refine V_sldj (j := 2) rfl (by omega) hL dW_879 ?_
  refine V_aload_n dW_880 rfl ?_
  refine V_callSH (as := [.ref 2, .int (xs (i + 1)), .int (xs (i + 2)), .ref 72]) (st := []) (k' := kk) (n' := nn) (R_part hq h) mw_L_part w_677 w_676 ar_L_part (rf_L rfl rfl rfl rfl rfl) dW_881 (fun σ1 rv hq1 => ?_)
  obtain ⟨e, rfl, hS1, hm⟩ := hq1
  refine V_cast (st' := [.int e]) rfl rfl rfl ?_
  refine V_istore [(0, .ref 1), (1, .ref 2), (2, .ref 33), (3, .ref 72), (4, .int (nI i)), (5, .int e)] dW_884 rfl rfl ?_
  refine V_aload_n dW_886 rfl ?_
  refine V_aload_n dW_887 rfl ?_
  refine V_iload dW_888 rfl ?_
  refine V_iconst (1 : Int32) dW_890 (by decide) ?_
  refine V_iadd dW_891 ?_
  refine V_sldj (j := 1) rfl (by omega) hL dW_892 ?_
  refine V_aload_n dW_893 rfl ?_
  refine V_iload dW_894 rfl ?_
  refine V_iconst (2 : Int32) dW_896 (by decide) ?_
  refine V_iadd dW_897 ?_
  refine V_sldj (j := 2) rfl (by omega) hL dW_898 ?_
  refine V_callV (as := [.int (xs (i + 1)), .int (xs (i + 2))]) (st := []) (k' := kk) (n' := nn) hm mw_X12_part ko_X12 rfl w_1266 w_1267 w_1265 ar_X12_part (rf_M rfl rfl rfl rfl rfl) dW_899 (by decide) (shk hS1 33 rfl) (fun σ2 rv hq2 => ?_)
  obtain ⟨e49, hR, d, rfl, hb⟩ := hq2
  refine V_cast (st' := [.int d]) rfl rfl rfl ?_
  refine V_istore [(0, .ref 1), (1, .ref 2), (2, .ref 33), (3, .ref 72), (4, .int (nI i)), (5, .int e), (6, .int d)] dW_902 rfl rfl ?_
  refine V_aload_n dW_904 rfl ?_
  refine V_callV1 (as := []) (st := []) (k' := kk) (n' := nn) (s_X12_thrown hR.2.1) mw_X12_thrown ko_X12 rfl w_1208 w_1209 w_1207 ar_X12_thrown rfl (rf_M rfl rfl rfl rfl rfl) dW_905 (by decide) (shk hR.2.1 33 rfl) ?_
  refine V_iload dW_908 rfl ?_
  refine V_icmp_eq 915 dW_910 rfl (fun _ => ?_) (fun c => absurd e49 c)
  refine V_iload dW_915 rfl ?_
  refine V_if_ne 932 dW_917 rfl (fun _ => ?_) (fun ck => ?_)
  · refine V_goto 1987 dW_932 rfl ?_
    exact V_less (fun q hq => List.mem_append_left [(5, .int e), (6, .int d)] hq) (Nat.le_refl _) (Nat.le_refl _) (kt σ2 hR)
  · refine V_aload_n dW_920 rfl ?_
    refine V_iconst (0 : Int32) dW_921 (by decide) ?_
    refine V_lald dW_922 (by decide) (shk hR.2.1 72 rfl) (vp_l (n := 1) (shl hR.2.1 72 rfl) (vp_in_nI (n := 0) (by decide) (by decide))) ?_
    refine V_iload dW_923 rfl ?_
    refine V_i2l dW_925 ?_
    refine V_lcmp dW_926 ?_
    refine V_if_eq 932 dW_927 rfl (fun _ => ?_) (fun c => absurd (lc_eq (hb ck)) c)
    refine V_goto 1987 dW_932 rfl ?_
    exact V_less (fun q hq => List.mem_append_left [(5, .int e), (6, .int d)] hq) (Nat.le_refl _) (Nat.le_refl _) (kt σ2 hR)
set_option maxRecDepth 100000 in
set_option maxHeartbeats 4000000 in
theorem LC_11 {g : GP} {b L : Nat} {xs : Nat → Int32} {kk nn i q : Nat} {σ : AH} (hL : L < 1073741824) (hi : i + 6 < L) (hq : q < 512) (h : Rel q σ) (kt : ∀ σ', Rel (q + 1) σ' → V g mLaw (ELw b) (CXl g b L xs) kk nn 1987 [(0, .ref 1), (1, .ref 2), (2, .ref 33), (3, .ref 72), (4, .int (nI i))] [] σ') :
    V g mLaw (ELw b) (CXl g b L xs) (kk + 11) (nn + 94) 935 [(0, .ref 1), (1, .ref 2), (2, .ref 33), (3, .ref 72), (4, .int (nI i))] [] σ := by
  refine V_aload_n dW_935 rfl ?_
  refine V_callV (as := []) (st := []) (k' := kk) (n' := nn) (R_price hq h) mw_X11_price ko_X11 rfl w_275 w_276 w_274 ar_X11_price (rf_L rfl rfl rfl rfl rfl) dW_936 (by decide) (shk h.2.1 2 rfl) (fun σ1 rv hq1 => ?_)
  obtain ⟨e, rfl, hS1, hm⟩ := hq1
  refine V_cast (st' := [.int e]) rfl rfl rfl ?_
  refine V_aload_n dW_939 rfl ?_
  refine V_callV (as := []) (st := [.int e]) (k' := kk) (n' := nn) hm mw_X12_price ko_X12 rfl w_1294 w_1295 w_1293 ar_X12_price (rf_M rfl rfl rfl rfl rfl) dW_940 (by decide) (shk hS1 33 rfl) (fun σ2 rv hq2 => ?_)
  obtain ⟨rfl, hR⟩ := hq2
  refine V_cast (st' := [.int e, .int e]) rfl rfl rfl ?_
  refine V_icmp_eq 1987 dW_943 rfl (fun _ => ?_) (fun c => absurd rfl c)
  exact V_less (fun q hq => List.mem_append_left [] hq) (Nat.le_refl _) (Nat.le_refl _) (kt σ2 hR)
set_option maxRecDepth 100000 in
set_option maxHeartbeats 4000000 in
theorem LC_12 {g : GP} {b L : Nat} {xs : Nat → Int32} {kk nn i q : Nat} {σ : AH} (hL : L < 1073741824) (hi : i + 6 < L) (hq : q < 512) (h : Rel q σ) (kt : ∀ σ', Rel (q + 1) σ' → V g mLaw (ELw b) (CXl g b L xs) kk nn 1987 [(0, .ref 1), (1, .ref 2), (2, .ref 33), (3, .ref 72), (4, .int (nI i))] [] σ') :
    V g mLaw (ELw b) (CXl g b L xs) (kk + 11) (nn + 94) 948 [(0, .ref 1), (1, .ref 2), (2, .ref 33), (3, .ref 72), (4, .int (nI i))] [] σ := by
  refine V_aload_n dW_948 rfl ?_
  refine V_callV (as := []) (st := []) (k' := kk) (n' := nn) (R_priceAnew hq h) mw_X11_priceAnew ko_X11 rfl w_350 w_351 w_349 ar_X11_priceAnew (rf_L rfl rfl rfl rfl rfl) dW_949 (by decide) (shk h.2.1 2 rfl) (fun σ1 rv hq1 => ?_)
  obtain ⟨e, rfl, hS1, hm⟩ := hq1
  refine V_cast (st' := [.int e]) rfl rfl rfl ?_
  refine V_aload_n dW_952 rfl ?_
  refine V_callV (as := []) (st := [.int e]) (k' := kk) (n' := nn) hm mw_X12_priceAnew ko_X12 rfl w_1306 w_1307 w_1305 ar_X12_priceAnew (rf_M rfl rfl rfl rfl rfl) dW_953 (by decide) (shk hS1 33 rfl) (fun σ2 rv hq2 => ?_)
  obtain ⟨rfl, hR⟩ := hq2
  refine V_cast (st' := [.int e, .int e]) rfl rfl rfl ?_
  refine V_icmp_eq 1987 dW_956 rfl (fun _ => ?_) (fun c => absurd rfl c)
  exact V_less (fun q hq => List.mem_append_left [] hq) (Nat.le_refl _) (Nat.le_refl _) (kt σ2 hR)
set_option maxRecDepth 100000 in
set_option maxHeartbeats 4000000 in
theorem LC_13 {g : GP} {b L : Nat} {xs : Nat → Int32} {kk nn i q : Nat} {σ : AH} (hL : L < 1073741824) (hi : i + 6 < L) (hq : q < 512) (h : Rel q σ) (kt : ∀ σ', Rel (q + 1) σ' → V g mLaw (ELw b) (CXl g b L xs) kk nn 1987 [(0, .ref 1), (1, .ref 2), (2, .ref 33), (3, .ref 72), (4, .int (nI i))] [] σ') :
    V g mLaw (ELw b) (CXl g b L xs) (kk + 11) (nn + 94) 961 [(0, .ref 1), (1, .ref 2), (2, .ref 33), (3, .ref 72), (4, .int (nI i))] [] σ := by
  refine V_aload_n dW_961 rfl ?_
  refine V_callV (as := []) (st := []) (k' := kk) (n' := nn) (R_cuts hq h) mw_X11_cuts ko_X11 rfl w_362 w_363 w_361 ar_X11_cuts (rf_L rfl rfl rfl rfl rfl) dW_962 (by decide) (shk h.2.1 2 rfl) (fun σ1 rv hq1 => ?_)
  obtain ⟨e, rfl, hS1, hm⟩ := hq1
  refine V_cast (st' := [.int e]) rfl rfl rfl ?_
  refine V_aload_n dW_965 rfl ?_
  refine V_callV (as := []) (st := [.int e]) (k' := kk) (n' := nn) hm mw_X12_cuts ko_X12 rfl w_1311 w_1312 w_1310 ar_X12_cuts (rf_M rfl rfl rfl rfl rfl) dW_966 (by decide) (shk hS1 33 rfl) (fun σ2 rv hq2 => ?_)
  obtain ⟨rfl, hR⟩ := hq2
  refine V_cast (st' := [.int e, .int e]) rfl rfl rfl ?_
  refine V_icmp_eq 1987 dW_969 rfl (fun _ => ?_) (fun c => absurd rfl c)
  exact V_less (fun q hq => List.mem_append_left [] hq) (Nat.le_refl _) (Nat.le_refl _) (kt σ2 hR)
set_option maxRecDepth 100000 in
set_option maxHeartbeats 4000000 in
theorem LC_14 {g : GP} {b L : Nat} {xs : Nat → Int32} {kk nn i q : Nat} {σ : AH} (hL : L < 1073741824) (hi : i + 6 < L) (hq : q < 512) (h : Rel q σ) (kt : ∀ σ', Rel (q + 1) σ' → V g mLaw (ELw b) (CXl g b L xs) kk nn 1987 [(0, .ref 1), (1, .ref 2), (2, .ref 33), (3, .ref 72), (4, .int (nI i))] [] σ') :
    V g mLaw (ELw b) (CXl g b L xs) (kk + 11) (nn + 94) 974 [(0, .ref 1), (1, .ref 2), (2, .ref 33), (3, .ref 72), (4, .int (nI i))] [] σ := by
  refine V_aload_n dW_974 rfl ?_
  refine V_aload_n dW_975 rfl ?_
  refine V_iload dW_976 rfl ?_
  refine V_iconst (1 : Int32) dW_978 (by decide) ?_
  refine V_iadd dW_979 ?_
  refine V_sldj (j := 1) rfl (by omega) hL dW_980 ?_
  refine V_aload_n dW_981 rfl ?_
  refine V_callSH (as := [.ref 2, .int (xs (i + 1)), .ref 72]) (st := []) (k' := kk) (n' := nn) (R_issue hq h) mw_L_issue w_692 w_691 ar_L_issue (rf_L rfl rfl rfl rfl rfl) dW_982 (fun σ1 rv hq1 => ?_)
  obtain ⟨e, rfl, hS1, hm⟩ := hq1
  refine V_cast (st' := [.int e]) rfl rfl rfl ?_
  refine V_istore [(0, .ref 1), (1, .ref 2), (2, .ref 33), (3, .ref 72), (4, .int (nI i)), (5, .int e)] dW_985 rfl rfl ?_
  refine V_aload_n dW_987 rfl ?_
  refine V_aload_n dW_988 rfl ?_
  refine V_iload dW_989 rfl ?_
  refine V_iconst (1 : Int32) dW_991 (by decide) ?_
  refine V_iadd dW_992 ?_
  refine V_sldj (j := 1) rfl (by omega) hL dW_993 ?_
  refine V_callV (as := [.int (xs (i + 1))]) (st := []) (k' := kk) (n' := nn) hm mw_X12_issue ko_X12 rfl w_1315 w_1316 w_1314 ar_X12_issue (rf_M rfl rfl rfl rfl rfl) dW_994 (by decide) (shk hS1 33 rfl) (fun σ2 rv hq2 => ?_)
  obtain ⟨e49, hR, d, rfl, hb⟩ := hq2
  refine V_cast (st' := [.int d]) rfl rfl rfl ?_
  refine V_istore [(0, .ref 1), (1, .ref 2), (2, .ref 33), (3, .ref 72), (4, .int (nI i)), (5, .int e), (6, .int d)] dW_997 rfl rfl ?_
  refine V_aload_n dW_999 rfl ?_
  refine V_callV1 (as := []) (st := []) (k' := kk) (n' := nn) (s_X12_thrown hR.2.1) mw_X12_thrown ko_X12 rfl w_1208 w_1209 w_1207 ar_X12_thrown rfl (rf_M rfl rfl rfl rfl rfl) dW_1000 (by decide) (shk hR.2.1 33 rfl) ?_
  refine V_iload dW_1003 rfl ?_
  refine V_icmp_eq 1010 dW_1005 rfl (fun _ => ?_) (fun c => absurd e49 c)
  refine V_iload dW_1010 rfl ?_
  refine V_if_ne 1027 dW_1012 rfl (fun _ => ?_) (fun ck => ?_)
  · refine V_goto 1987 dW_1027 rfl ?_
    exact V_less (fun q hq => List.mem_append_left [(5, .int e), (6, .int d)] hq) (Nat.le_refl _) (Nat.le_refl _) (kt σ2 hR)
  · refine V_aload_n dW_1015 rfl ?_
    refine V_iconst (0 : Int32) dW_1016 (by decide) ?_
    refine V_lald dW_1017 (by decide) (shk hR.2.1 72 rfl) (vp_l (n := 1) (shl hR.2.1 72 rfl) (vp_in_nI (n := 0) (by decide) (by decide))) ?_
    refine V_iload dW_1018 rfl ?_
    refine V_i2l dW_1020 ?_
    refine V_lcmp dW_1021 ?_
    refine V_if_eq 1027 dW_1022 rfl (fun _ => ?_) (fun c => absurd (lc_eq (hb ck)) c)
    refine V_goto 1987 dW_1027 rfl ?_
    exact V_less (fun q hq => List.mem_append_left [(5, .int e), (6, .int d)] hq) (Nat.le_refl _) (Nat.le_refl _) (kt σ2 hR)
set_option maxRecDepth 100000 in
set_option maxHeartbeats 4000000 in
theorem LC_15 {g : GP} {b L : Nat} {xs : Nat → Int32} {kk nn i q : Nat} {σ : AH} (hL : L < 1073741824) (hi : i + 6 < L) (hq : q < 512) (h : Rel q σ) (kt : ∀ σ', Rel (q + 1) σ' → V g mLaw (ELw b) (CXl g b L xs) kk nn 1987 [(0, .ref 1), (1, .ref 2), (2, .ref 33), (3, .ref 72), (4, .int (nI i))] [] σ') :
    V g mLaw (ELw b) (CXl g b L xs) (kk + 11) (nn + 94) 1030 [(0, .ref 1), (1, .ref 2), (2, .ref 33), (3, .ref 72), (4, .int (nI i))] [] σ := by
  refine V_aload_n dW_1030 rfl ?_
  refine V_aload_n dW_1031 rfl ?_
  refine V_iload dW_1032 rfl ?_
  refine V_iconst (1 : Int32) dW_1034 (by decide) ?_
  refine V_iadd dW_1035 ?_
  refine V_sldj (j := 1) rfl (by omega) hL dW_1036 ?_
  refine V_aload_n dW_1037 rfl ?_
  refine V_iload dW_1038 rfl ?_
  refine V_iconst (2 : Int32) dW_1040 (by decide) ?_
  refine V_iadd dW_1041 ?_
  refine V_sldj (j := 2) rfl (by omega) hL dW_1042 ?_
  refine V_aload_n dW_1043 rfl ?_
  refine V_callSH (as := [.ref 2, .int (xs (i + 1)), .int (xs (i + 2)), .ref 72]) (st := []) (k' := kk) (n' := nn) (R_fly hq h) mw_L_fly w_835 w_834 ar_L_fly (rf_L rfl rfl rfl rfl rfl) dW_1044 (fun σ1 rv hq1 => ?_)
  obtain ⟨e, rfl, hS1, hm⟩ := hq1
  refine V_cast (st' := [.int e]) rfl rfl rfl ?_
  refine V_istore [(0, .ref 1), (1, .ref 2), (2, .ref 33), (3, .ref 72), (4, .int (nI i)), (5, .int e)] dW_1047 rfl rfl ?_
  refine V_aload_n dW_1049 rfl ?_
  refine V_aload_n dW_1050 rfl ?_
  refine V_iload dW_1051 rfl ?_
  refine V_iconst (1 : Int32) dW_1053 (by decide) ?_
  refine V_iadd dW_1054 ?_
  refine V_sldj (j := 1) rfl (by omega) hL dW_1055 ?_
  refine V_aload_n dW_1056 rfl ?_
  refine V_iload dW_1057 rfl ?_
  refine V_iconst (2 : Int32) dW_1059 (by decide) ?_
  refine V_iadd dW_1060 ?_
  refine V_sldj (j := 2) rfl (by omega) hL dW_1061 ?_
  refine V_callV (as := [.int (xs (i + 1)), .int (xs (i + 2))]) (st := []) (k' := kk) (n' := nn) hm mw_X12_fly ko_X12 rfl w_1347 w_1348 w_1346 ar_X12_fly (rf_M rfl rfl rfl rfl rfl) dW_1062 (by decide) (shk hS1 33 rfl) (fun σ2 rv hq2 => ?_)
  obtain ⟨e49, hR, d, rfl, hb⟩ := hq2
  refine V_cast (st' := [.int d]) rfl rfl rfl ?_
  refine V_istore [(0, .ref 1), (1, .ref 2), (2, .ref 33), (3, .ref 72), (4, .int (nI i)), (5, .int e), (6, .int d)] dW_1065 rfl rfl ?_
  refine V_aload_n dW_1067 rfl ?_
  refine V_callV1 (as := []) (st := []) (k' := kk) (n' := nn) (s_X12_thrown hR.2.1) mw_X12_thrown ko_X12 rfl w_1208 w_1209 w_1207 ar_X12_thrown rfl (rf_M rfl rfl rfl rfl rfl) dW_1068 (by decide) (shk hR.2.1 33 rfl) ?_
  refine V_iload dW_1071 rfl ?_
  refine V_icmp_eq 1078 dW_1073 rfl (fun _ => ?_) (fun c => absurd e49 c)
  refine V_iload dW_1078 rfl ?_
  refine V_if_ne 1095 dW_1080 rfl (fun _ => ?_) (fun ck => ?_)
  · refine V_goto 1987 dW_1095 rfl ?_
    exact V_less (fun q hq => List.mem_append_left [(5, .int e), (6, .int d)] hq) (Nat.le_refl _) (Nat.le_refl _) (kt σ2 hR)
  · refine V_aload_n dW_1083 rfl ?_
    refine V_iconst (0 : Int32) dW_1084 (by decide) ?_
    refine V_lald dW_1085 (by decide) (shk hR.2.1 72 rfl) (vp_l (n := 1) (shl hR.2.1 72 rfl) (vp_in_nI (n := 0) (by decide) (by decide))) ?_
    refine V_iload dW_1086 rfl ?_
    refine V_i2l dW_1088 ?_
    refine V_lcmp dW_1089 ?_
    refine V_if_eq 1095 dW_1090 rfl (fun _ => ?_) (fun c => absurd (lc_eq (hb ck)) c)
    refine V_goto 1987 dW_1095 rfl ?_
    exact V_less (fun q hq => List.mem_append_left [(5, .int e), (6, .int d)] hq) (Nat.le_refl _) (Nat.le_refl _) (kt σ2 hR)
