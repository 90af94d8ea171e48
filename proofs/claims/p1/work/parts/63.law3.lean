theorem dL_law_802 : decode cL_law 802 = .ok (.aload_n 1, 1) := by decide +kernel
theorem dL_law_803 : decode cL_law 803 = .ok (.aload_n 0, 1) := by decide +kernel
theorem dL_law_804 : decode cL_law 804 = .ok (.iload 4, 2) := by decide +kernel
theorem dL_law_806 : decode cL_law 806 = .ok (.iconst 1, 1) := by decide +kernel
theorem dL_law_807 : decode cL_law 807 = .ok (.iadd, 1) := by decide +kernel
theorem dL_law_808 : decode cL_law 808 = .ok (.iaload, 1) := by decide +kernel
theorem dL_law_809 : decode cL_law 809 = .ok (.aload_n 0, 1) := by decide +kernel
theorem dL_law_810 : decode cL_law 810 = .ok (.iload 4, 2) := by decide +kernel
theorem dL_law_812 : decode cL_law 812 = .ok (.iconst 2, 1) := by decide +kernel
theorem dL_law_813 : decode cL_law 813 = .ok (.iadd, 1) := by decide +kernel
theorem dL_law_814 : decode cL_law 814 = .ok (.iaload, 1) := by decide +kernel
theorem dL_law_815 : decode cL_law 815 = .ok (.invokevirtual 88, 3) := by decide +kernel
theorem dL_law_818 : decode cL_law 818 = .ok (.aload_n 2, 1) := by decide +kernel
theorem dL_law_819 : decode cL_law 819 = .ok (.aload_n 0, 1) := by decide +kernel
theorem dL_law_820 : decode cL_law 820 = .ok (.iload 4, 2) := by decide +kernel
theorem dL_law_822 : decode cL_law 822 = .ok (.iconst 1, 1) := by decide +kernel
theorem dL_law_823 : decode cL_law 823 = .ok (.iadd, 1) := by decide +kernel
theorem dL_law_824 : decode cL_law 824 = .ok (.iaload, 1) := by decide +kernel
theorem dL_law_825 : decode cL_law 825 = .ok (.aload_n 0, 1) := by decide +kernel
theorem dL_law_826 : decode cL_law 826 = .ok (.iload 4, 2) := by decide +kernel
theorem dL_law_828 : decode cL_law 828 = .ok (.iconst 2, 1) := by decide +kernel
theorem dL_law_829 : decode cL_law 829 = .ok (.iadd, 1) := by decide +kernel
theorem dL_law_830 : decode cL_law 830 = .ok (.iaload, 1) := by decide +kernel
theorem dL_law_831 : decode cL_law 831 = .ok (.invokevirtual 91, 3) := by decide +kernel
theorem dL_law_834 : decode cL_law 834 = .ok (.if_icmp .eq 477, 3) := by decide +kernel
theorem dL_law_839 : decode cL_law 839 = .ok (.aload_n 1, 1) := by decide +kernel
theorem dL_law_840 : decode cL_law 840 = .ok (.aload_n 0, 1) := by decide +kernel
theorem dL_law_841 : decode cL_law 841 = .ok (.iload 4, 2) := by decide +kernel
theorem dL_law_843 : decode cL_law 843 = .ok (.iconst 1, 1) := by decide +kernel
theorem dL_law_844 : decode cL_law 844 = .ok (.iadd, 1) := by decide +kernel
theorem dL_law_845 : decode cL_law 845 = .ok (.iaload, 1) := by decide +kernel
theorem dL_law_846 : decode cL_law 846 = .ok (.aload_n 0, 1) := by decide +kernel
theorem dL_law_847 : decode cL_law 847 = .ok (.iload 4, 2) := by decide +kernel
theorem dL_law_849 : decode cL_law 849 = .ok (.iconst 2, 1) := by decide +kernel
theorem dL_law_850 : decode cL_law 850 = .ok (.iadd, 1) := by decide +kernel
theorem dL_law_851 : decode cL_law 851 = .ok (.iaload, 1) := by decide +kernel
theorem dL_law_852 : decode cL_law 852 = .ok (.invokevirtual 92, 3) := by decide +kernel
theorem dL_law_855 : decode cL_law 855 = .ok (.aload_n 2, 1) := by decide +kernel
theorem dL_law_856 : decode cL_law 856 = .ok (.aload_n 0, 1) := by decide +kernel
theorem dL_law_857 : decode cL_law 857 = .ok (.iload 4, 2) := by decide +kernel
theorem dL_law_859 : decode cL_law 859 = .ok (.iconst 1, 1) := by decide +kernel
theorem dL_law_860 : decode cL_law 860 = .ok (.iadd, 1) := by decide +kernel
theorem dL_law_861 : decode cL_law 861 = .ok (.iaload, 1) := by decide +kernel
theorem dL_law_862 : decode cL_law 862 = .ok (.aload_n 0, 1) := by decide +kernel
theorem dL_law_863 : decode cL_law 863 = .ok (.iload 4, 2) := by decide +kernel
theorem dL_law_865 : decode cL_law 865 = .ok (.iconst 2, 1) := by decide +kernel
theorem dL_law_866 : decode cL_law 866 = .ok (.iadd, 1) := by decide +kernel
theorem dL_law_867 : decode cL_law 867 = .ok (.iaload, 1) := by decide +kernel
theorem dL_law_868 : decode cL_law 868 = .ok (.invokevirtual 95, 3) := by decide +kernel
theorem dL_law_871 : decode cL_law 871 = .ok (.if_icmp .eq 440, 3) := by decide +kernel
theorem dL_law_876 : decode cL_law 876 = .ok (.aload_n 1, 1) := by decide +kernel
theorem dL_law_877 : decode cL_law 877 = .ok (.aload_n 0, 1) := by decide +kernel
theorem dL_law_878 : decode cL_law 878 = .ok (.iload 4, 2) := by decide +kernel
theorem dL_law_880 : decode cL_law 880 = .ok (.iconst 1, 1) := by decide +kernel
theorem dL_law_881 : decode cL_law 881 = .ok (.iadd, 1) := by decide +kernel
theorem dL_law_882 : decode cL_law 882 = .ok (.iaload, 1) := by decide +kernel
theorem dL_law_883 : decode cL_law 883 = .ok (.aload_n 0, 1) := by decide +kernel
theorem dL_law_884 : decode cL_law 884 = .ok (.iload 4, 2) := by decide +kernel
theorem dL_law_886 : decode cL_law 886 = .ok (.iconst 2, 1) := by decide +kernel
theorem dL_law_887 : decode cL_law 887 = .ok (.iadd, 1) := by decide +kernel
theorem dL_law_888 : decode cL_law 888 = .ok (.iaload, 1) := by decide +kernel
theorem dL_law_889 : decode cL_law 889 = .ok (.invokevirtual 96, 3) := by decide +kernel
theorem dL_law_892 : decode cL_law 892 = .ok (.aload_n 2, 1) := by decide +kernel
theorem dL_law_893 : decode cL_law 893 = .ok (.aload_n 0, 1) := by decide +kernel
theorem dL_law_894 : decode cL_law 894 = .ok (.iload 4, 2) := by decide +kernel
theorem dL_law_896 : decode cL_law 896 = .ok (.iconst 1, 1) := by decide +kernel
theorem dL_law_897 : decode cL_law 897 = .ok (.iadd, 1) := by decide +kernel
theorem dL_law_898 : decode cL_law 898 = .ok (.iaload, 1) := by decide +kernel
theorem dL_law_899 : decode cL_law 899 = .ok (.aload_n 0, 1) := by decide +kernel
theorem dL_law_900 : decode cL_law 900 = .ok (.iload 4, 2) := by decide +kernel
theorem dL_law_902 : decode cL_law 902 = .ok (.iconst 2, 1) := by decide +kernel
theorem dL_law_903 : decode cL_law 903 = .ok (.iadd, 1) := by decide +kernel
theorem dL_law_904 : decode cL_law 904 = .ok (.iaload, 1) := by decide +kernel
theorem dL_law_905 : decode cL_law 905 = .ok (.invokevirtual 99, 3) := by decide +kernel
theorem dL_law_908 : decode cL_law 908 = .ok (.if_icmp .eq 403, 3) := by decide +kernel
theorem dL_law_913 : decode cL_law 913 = .ok (.aload_n 1, 1) := by decide +kernel
theorem dL_law_914 : decode cL_law 914 = .ok (.aload_n 0, 1) := by decide +kernel
theorem dL_law_915 : decode cL_law 915 = .ok (.iload 4, 2) := by decide +kernel
theorem dL_law_917 : decode cL_law 917 = .ok (.iconst 1, 1) := by decide +kernel
theorem dL_law_918 : decode cL_law 918 = .ok (.iadd, 1) := by decide +kernel
theorem dL_law_919 : decode cL_law 919 = .ok (.iaload, 1) := by decide +kernel
theorem dL_law_920 : decode cL_law 920 = .ok (.aload_n 0, 1) := by decide +kernel
theorem dL_law_921 : decode cL_law 921 = .ok (.iload 4, 2) := by decide +kernel
theorem dL_law_923 : decode cL_law 923 = .ok (.iconst 2, 1) := by decide +kernel
theorem dL_law_924 : decode cL_law 924 = .ok (.iadd, 1) := by decide +kernel
theorem dL_law_925 : decode cL_law 925 = .ok (.iaload, 1) := by decide +kernel
theorem dL_law_926 : decode cL_law 926 = .ok (.aload_n 0, 1) := by decide +kernel
theorem dL_law_927 : decode cL_law 927 = .ok (.iload 4, 2) := by decide +kernel
theorem dL_law_929 : decode cL_law 929 = .ok (.iconst 3, 1) := by decide +kernel
theorem dL_law_930 : decode cL_law 930 = .ok (.iadd, 1) := by decide +kernel
theorem dL_law_931 : decode cL_law 931 = .ok (.iaload, 1) := by decide +kernel
theorem dL_law_932 : decode cL_law 932 = .ok (.invokevirtual 100, 3) := by decide +kernel
theorem dL_law_935 : decode cL_law 935 = .ok (.aload_n 2, 1) := by decide +kernel
theorem dL_law_936 : decode cL_law 936 = .ok (.aload_n 0, 1) := by decide +kernel
theorem dL_law_937 : decode cL_law 937 = .ok (.iload 4, 2) := by decide +kernel
theorem dL_law_939 : decode cL_law 939 = .ok (.iconst 1, 1) := by decide +kernel
theorem dL_law_940 : decode cL_law 940 = .ok (.iadd, 1) := by decide +kernel
theorem dL_law_941 : decode cL_law 941 = .ok (.iaload, 1) := by decide +kernel
theorem dL_law_942 : decode cL_law 942 = .ok (.aload_n 0, 1) := by decide +kernel
theorem dL_law_943 : decode cL_law 943 = .ok (.iload 4, 2) := by decide +kernel
theorem dL_law_945 : decode cL_law 945 = .ok (.iconst 2, 1) := by decide +kernel
theorem dL_law_946 : decode cL_law 946 = .ok (.iadd, 1) := by decide +kernel
theorem dL_law_947 : decode cL_law 947 = .ok (.iaload, 1) := by decide +kernel
theorem dL_law_948 : decode cL_law 948 = .ok (.aload_n 0, 1) := by decide +kernel
theorem dL_law_949 : decode cL_law 949 = .ok (.iload 4, 2) := by decide +kernel
theorem dL_law_951 : decode cL_law 951 = .ok (.iconst 3, 1) := by decide +kernel
theorem dL_law_952 : decode cL_law 952 = .ok (.iadd, 1) := by decide +kernel
theorem dL_law_953 : decode cL_law 953 = .ok (.iaload, 1) := by decide +kernel
theorem dL_law_954 : decode cL_law 954 = .ok (.invokevirtual 103, 3) := by decide +kernel
theorem dL_law_957 : decode cL_law 957 = .ok (.if_icmp .eq 354, 3) := by decide +kernel
theorem qw_509 : (Cond.code yX8_open cX8_open 3 (some .int) : Cond) ∈ TBL := List.mem_of_getElem? (i := 782) (by decide +kernel)
theorem qw_510 : (Cond.methodLink RL 88 yX8_open : Cond) ∈ TBL := List.mem_of_getElem? (i := 779) (by decide +kernel)
theorem qw_511 : (Cond.instanceMethod yX8_open : Cond) ∈ TBL := List.mem_of_getElem? (i := 780) (by decide +kernel)
theorem qw_512 : (Cond.selects RX8 yX8_open yX8_open : Cond) ∈ TBL := List.mem_of_getElem? (i := 781) (by decide +kernel)
theorem qw_513 : (Cond.code yX9_open cX9_open 3 (some .int) : Cond) ∈ TBL := List.mem_of_getElem? (i := 790) (by decide +kernel)
theorem qw_514 : (Cond.methodLink RL 91 yX9_open : Cond) ∈ TBL := List.mem_of_getElem? (i := 787) (by decide +kernel)
theorem qw_515 : (Cond.instanceMethod yX9_open : Cond) ∈ TBL := List.mem_of_getElem? (i := 788) (by decide +kernel)
theorem qw_516 : (Cond.selects RX9 yX9_open yX9_open : Cond) ∈ TBL := List.mem_of_getElem? (i := 789) (by decide +kernel)
theorem qw_517 : (Cond.code yX8_next cX8_next 9 (some .int) : Cond) ∈ TBL := List.mem_of_getElem? (i := 801) (by decide +kernel)
theorem qw_518 : (Cond.methodLink RL 92 yX8_next : Cond) ∈ TBL := List.mem_of_getElem? (i := 798) (by decide +kernel)
theorem qw_519 : (Cond.instanceMethod yX8_next : Cond) ∈ TBL := List.mem_of_getElem? (i := 799) (by decide +kernel)
theorem qw_520 : (Cond.selects RX8 yX8_next yX8_next : Cond) ∈ TBL := List.mem_of_getElem? (i := 800) (by decide +kernel)
theorem qw_521 : (Cond.code yX9_next cX9_next 6 (some .int) : Cond) ∈ TBL := List.mem_of_getElem? (i := 805) (by decide +kernel)
theorem qw_522 : (Cond.methodLink RL 95 yX9_next : Cond) ∈ TBL := List.mem_of_getElem? (i := 802) (by decide +kernel)
theorem qw_523 : (Cond.instanceMethod yX9_next : Cond) ∈ TBL := List.mem_of_getElem? (i := 803) (by decide +kernel)
theorem qw_524 : (Cond.selects RX9 yX9_next yX9_next : Cond) ∈ TBL := List.mem_of_getElem? (i := 804) (by decide +kernel)
theorem qw_525 : (Cond.code yX8_listed cX8_listed 3 (some .int) : Cond) ∈ TBL := List.mem_of_getElem? (i := 810) (by decide +kernel)
theorem qw_526 : (Cond.methodLink RL 96 yX8_listed : Cond) ∈ TBL := List.mem_of_getElem? (i := 807) (by decide +kernel)
theorem qw_527 : (Cond.instanceMethod yX8_listed : Cond) ∈ TBL := List.mem_of_getElem? (i := 808) (by decide +kernel)
theorem qw_528 : (Cond.selects RX8 yX8_listed yX8_listed : Cond) ∈ TBL := List.mem_of_getElem? (i := 809) (by decide +kernel)
theorem qw_529 : (Cond.code yX9_listed cX9_listed 6 (some .int) : Cond) ∈ TBL := List.mem_of_getElem? (i := 822) (by decide +kernel)
theorem qw_530 : (Cond.methodLink RL 99 yX9_listed : Cond) ∈ TBL := List.mem_of_getElem? (i := 819) (by decide +kernel)
theorem qw_531 : (Cond.instanceMethod yX9_listed : Cond) ∈ TBL := List.mem_of_getElem? (i := 820) (by decide +kernel)
theorem qw_532 : (Cond.selects RX9 yX9_listed yX9_listed : Cond) ∈ TBL := List.mem_of_getElem? (i := 821) (by decide +kernel)
theorem qw_533 : (Cond.code yX8_mustGo cX8_mustGo 8 (some .int) : Cond) ∈ TBL := List.mem_of_getElem? (i := 830) (by decide +kernel)
theorem qw_534 : (Cond.methodLink RL 100 yX8_mustGo : Cond) ∈ TBL := List.mem_of_getElem? (i := 827) (by decide +kernel)
theorem qw_535 : (Cond.instanceMethod yX8_mustGo : Cond) ∈ TBL := List.mem_of_getElem? (i := 828) (by decide +kernel)
theorem qw_536 : (Cond.selects RX8 yX8_mustGo yX8_mustGo : Cond) ∈ TBL := List.mem_of_getElem? (i := 829) (by decide +kernel)
theorem qw_537 : (Cond.code yX9_mustGo cX9_mustGo 7 (some .int) : Cond) ∈ TBL := List.mem_of_getElem? (i := 834) (by decide +kernel)
theorem qw_538 : (Cond.methodLink RL 103 yX9_mustGo : Cond) ∈ TBL := List.mem_of_getElem? (i := 831) (by decide +kernel)
theorem qw_539 : (Cond.instanceMethod yX9_mustGo : Cond) ∈ TBL := List.mem_of_getElem? (i := 832) (by decide +kernel)
theorem qw_540 : (Cond.selects RX9 yX9_mustGo yX9_mustGo : Cond) ∈ TBL := List.mem_of_getElem? (i := 833) (by decide +kernel)
set_option maxHeartbeats 4000000 in
set_option maxRecDepth 100000 in
theorem law_15A {p : Program} {e : Env} {s : State} {m : MethodId} {below : List Frame} {meth : Method} {c : Code} (l : Launch) {b0 : Nat} {xs : Nat → Int32} (C0 : lw_At p s m meth c b0 6 xs) (dC : Nat → ClassId) (dI : Nat → Nat → Nat) (g : Gv) (x0 : Nat) (b : Nat → Nat) (f4 : Nat → Nat) (c4 : ClassId) (f5 : Nat → Nat) (f7 : Nat → Nat) (f6 : Nat → Nat) (f2 : Nat → Nat) (cK : ClassId) (kf : Nat → Option Nat) (cZ : ClassId) (fT : Nat → Nat) (fU : Nat → Nat) (sa : Nat → Nat) (sf : Nat → Nat → Nat) (sc : Nat → Nat → ClassId) (spf : Nat → Nat → Int32) (sdf : Nat → Nat → Int32) (slf : Nat → Nat → Int32) (srf : Nat → Nat → Int32) (sga : Nat → Nat → Option Nat) (sgb : Nat → Nat → Option Nat) (rows : va_W) (m0 : Nat) (a : Nat → Nat) (ca : Nat → ClassId) (o0 : Nat) (dn : Nat) (rn : Nat) (hq1 : xs 1 = (nI dn)) (hq2 : xs 2 = (nI rn)) (hdn : dn ≤ 219145) (hrn : rn ≤ 15) {H : Heap} {locs : List Loc} {ls : Array Slot} (hK : va_K (dC, dI) vwCl [((ca 21), .int), ((ca 20), .int)] s) (hP : va_P (dC, dI) vwCl [(x0, .inr (7, [.ref (b 0), .ref (b 1), .ref (b 2), .ref (b 3), .ref (b 4), .ref (b 5), .ref (b 6), .ref (b 7), .ref (b 8), .ref (b 9), .int 1])), ((b 2), .inr (5, [.ref (f6 0), .ref (f6 1), .ref (f6 2), .ref (f6 3), .ref (f6 4), .ref (f6 5), .int 0, .int 0])), ((b 6), .inr (0, [.int 0, .ref (fT 1), .int 0, .ref (fT 3), .int 0, .ref (fT 5), .ref (fT 6), .ref (fT 7), .int 0, .ref (fT 9), .ref (fT 10), .ref (fT 11), .ref (fT 12), .ref (fT 13)])), (m0, .inr (8, [.int 0, .int 0, .int 0, .int 0, .ref (a 4), .int 0, .int 0, .int 0, .int 0, .int 0, .int 0, .long 0, .int 0, .int 0, .int 0, .int 0, .int 0, .int 0, .ref (a 18), .ref (a 19), .ref (a 20), .ref (a 21), .ref (a 22), .ref (a 23), .ref (a 24), .ref (a 25), .ref (a 26), .ref (a 27), .ref (a 28), .ref (a 29), .ref (a 30), .ref (a 31), .ref (a 32), .ref (a 33), .ref (a 34), .ref (a 35), .long 0, .int 0, .ref (a 38), .ref (a 39), .int 0, .ref (a 41), .ref (a 42), .ref (a 43)])), ((a 21), .inl ((ca 21), 2, .inl (fun _ => 0))), ((a 20), .inl ((ca 20), 2, .inl (fun _ => 0)))] H) (hD : va_D (fun q : Nat => s.heap.size ≤ q) [(x0, .inr (7, [.ref (b 0), .ref (b 1), .ref (b 2), .ref (b 3), .ref (b 4), .ref (b 5), .ref (b 6), .ref (b 7), .ref (b 8), .ref (b 9), .int 1])), ((b 2), .inr (5, [.ref (f6 0), .ref (f6 1), .ref (f6 2), .ref (f6 3), .ref (f6 4), .ref (f6 5), .int 0, .int 0])), ((b 6), .inr (0, [.int 0, .ref (fT 1), .int 0, .ref (fT 3), .int 0, .ref (fT 5), .ref (fT 6), .ref (fT 7), .int 0, .ref (fT 9), .ref (fT 10), .ref (fT 11), .ref (fT 12), .ref (fT 13)])), (m0, .inr (8, [.int 0, .int 0, .int 0, .int 0, .ref (a 4), .int 0, .int 0, .int 0, .int 0, .int 0, .int 0, .long 0, .int 0, .int 0, .int 0, .int 0, .int 0, .int 0, .ref (a 18), .ref (a 19), .ref (a 20), .ref (a 21), .ref (a 22), .ref (a 23), .ref (a 24), .ref (a 25), .ref (a 26), .ref (a 27), .ref (a 28), .ref (a 29), .ref (a 30), .ref (a 31), .ref (a 32), .ref (a 33), .ref (a 34), .ref (a 35), .long 0, .int 0, .ref (a 38), .ref (a 39), .int 0, .ref (a 41), .ref (a 42), .ref (a 43)])), ((a 21), .inl ((ca 21), 2, .inl (fun _ => 0))), ((a 20), .inl ((ca 20), 2, .inl (fun _ => 0)))]) (hS : va_S (fun q : Nat => s.heap.size ≤ q) s.heap H locs) (hE : Ev g (fun q : Nat => s.heap.size ≤ q) s) (hl : lv_has ls 7 [(4, .int 0), (3, .ref o0), (2, .ref m0), (1, .ref x0), (0, .ref b0)]) : W p l e room_1 s m #[Value.ref b0] below meth c H locs 243 7586 (lw_Z below #[Value.ref b0] s) (F0 m 802 ls []) := by
  obtain ⟨hx, hb, hr, hml, hown, hts0, hX, hbl, hlocks, hgv⟩ := id C0
  have hts := fun (w : Cond) (h : w ∈ TBL) => hts0 w (TBin w h)
  have hown : s.vm.findClass RL = some m.cls := hown
  have hN := hE.1
  have hA : ∀ q : Nat, s.heap.size ≤ q → (fun q : Nat => s.heap.size ≤ q) q := fun _ h => h
  have hbA : ¬ (fun q : Nat => s.heap.size ≤ q) b0 := Nat.not_le.mpr hbl
  generalize hAe : (fun q : Nat => s.heap.size ≤ q) = A at hD hS hE hA hbA
  refine lv_aload_n hx hb dL_law_802 rfl (lv_at hl 3 rfl) ?_
  refine lv_aload_n hx hb dL_law_803 rfl (lv_at hl 4 rfl) ?_
  refine lv_iload hx hb dL_law_804 (lv_at hl 0 rfl) ?_
  refine lv_iconst (v := 1) hx hb dL_law_806 (by decide) ?_
  refine lv_iadd hx hb dL_law_807 ?_
  refine cst (v := 1) (by decide) ?_
  refine va_sld hx hb hX hbl hbA hS (vin0 (by decide)) dL_law_808 ?_
  refine cst (v := (nI dn)) ((congrArg xs (show (1 : Int32).toNatClampNeg = 1 by decide)).trans hq1) ?_
  refine lv_aload_n hx hb dL_law_809 rfl (lv_at hl 4 rfl) ?_
  refine lv_iload hx hb dL_law_810 (lv_at hl 0 rfl) ?_
  refine lv_iconst (v := 2) hx hb dL_law_812 (by decide) ?_
  refine lv_iadd hx hb dL_law_813 ?_
  refine cst (v := 2) (by decide) ?_
  refine va_sld hx hb hX hbl hbA hS (vin0 (by decide)) dL_law_814 ?_
  refine cst (v := (nI rn)) ((congrArg xs (show (2 : Int32).toNatClampNeg = 2 by decide)).trans hq2) ?_
  have hPc := hP.sub (ws' := [(x0, .inr (7, [.ref (b 0), .ref (b 1), .ref (b 2), .ref (b 3), .ref (b 4), .ref (b 5), .ref (b 6), .ref (b 7), .ref (b 8), .ref (b 9), .int 1])), ((b 2), .inr (5, [.ref (f6 0), .ref (f6 1), .ref (f6 2), .ref (f6 3), .ref (f6 4), .ref (f6 5), .int 0, .int 0])), ((b 6), .inr (0, [.int 0, .ref (fT 1), .int 0, .ref (fT 3), .int 0, .ref (fT 5), .ref (fT 6), .ref (fT 7), .int 0, .ref (fT 9), .ref (fT 10), .ref (fT 11), .ref (fT 12), .ref (fT 13)]))]) [0, 1, 2] rfl
  have hKc := hK.sub (tys' := []) [] rfl
  have hDc := hD.sub (ws' := [(x0, .inr (7, [.ref (b 0), .ref (b 1), .ref (b 2), .ref (b 3), .ref (b 4), .ref (b 5), .ref (b 6), .ref (b 7), .ref (b 8), .ref (b 9), .int 1])), ((b 2), .inr (5, [.ref (f6 0), .ref (f6 1), .ref (f6 2), .ref (f6 3), .ref (f6 4), .ref (f6 5), .int 0, .int 0])), ((b 6), .inr (0, [.int 0, .ref (fT 1), .int 0, .ref (fT 3), .int 0, .ref (fT 5), .ref (fT 6), .ref (fT 7), .int 0, .ref (fT 9), .ref (fT 10), .ref (fT 11), .ref (fT 12), .ref (fT 13)]))]) [0, 1, 2] (by decide) rfl
  have hFc := va_free (wc := [(x0, .inr (7, [.ref (b 0), .ref (b 1), .ref (b 2), .ref (b 3), .ref (b 4), .ref (b 5), .ref (b 6), .ref (b 7), .ref (b 8), .ref (b 9), .int 1])), ((b 2), .inr (5, [.ref (f6 0), .ref (f6 1), .ref (f6 2), .ref (f6 3), .ref (f6 4), .ref (f6 5), .int 0, .int 0])), ((b 6), .inr (0, [.int 0, .ref (fT 1), .int 0, .ref (fT 3), .int 0, .ref (fT 5), .ref (fT 6), .ref (fT 7), .int 0, .ref (fT 9), .ref (fT 10), .ref (fT 11), .ref (fT 12), .ref (fT 13)]))]) hD hS hA [0, 1, 2] rfl
  refine va_calli (va_runV (As := [.int (nI dn), .int (nI rn)]) (rest := []) ⟨hx, hb, hml, hown, hts⟩ (c_8open_A l dC dI g H.size (x0) (b) (f4) (c4) (f5) (f7) (f6) (f2) (cK) (kf) (cZ) (fT) (fU) (sa) (sf) (sc) (spf) (sdf) (slf) (srf) (sga) (sgb) (rows) (dn) (rn) hdn hrn) (cwV 2 hts (gwV qw_510 qw_511 qw_512 qw_69 qw_509) rfl rfl rfl (by decide +kernel) ⟨Nat.le_of_ble_eq_true rfl, Nat.le_of_ble_eq_true rfl⟩) ⟨fun a U g9 mk q => ⟨q.1, q.2.1, q.2.2.1, va_K.moved (u := U) (U := U.calling g9 mk a) (Vm.Alike.refl U.vm) q.2.2.2.1, q.2.2.2.2.1, Ev.bl q.2.2.2.2.2⟩, va_recv hK hP (ci := 7) (q0 := 0) rfl rfl, fun U hU hW => ⟨rfl, by rw [hU], by rw [hU]; exact hPc, va_K.moved hW.alike hKc, hDc.weaken (fun _ _ _ _ => trivial), hE.go hS hFc hU hW⟩⟩ rfl rfl hl.1 rfl (lv_room (Nat.le_of_ble_eq_true rfl)) dL_law_815 ⟨Nat.le_of_ble_eq_true rfl, Nat.le_of_ble_eq_true rfl⟩) hS (fun q _ h => hFc q h) hFc (fun r2 u1 t H1 locs ht hvm h_u1 hB hz1 hk1 hS => ?_)
  obtain ⟨hP, hD⟩ := va_join (wr := [(m0, .inr (8, [.int 0, .int 0, .int 0, .int 0, .ref (a 4), .int 0, .int 0, .int 0, .int 0, .int 0, .int 0, .long 0, .int 0, .int 0, .int 0, .int 0, .int 0, .int 0, .ref (a 18), .ref (a 19), .ref (a 20), .ref (a 21), .ref (a 22), .ref (a 23), .ref (a 24), .ref (a 25), .ref (a 26), .ref (a 27), .ref (a 28), .ref (a 29), .ref (a 30), .ref (a 31), .ref (a 32), .ref (a 33), .ref (a 34), .ref (a 35), .long 0, .int 0, .ref (a 38), .ref (a 39), .int 0, .ref (a 41), .ref (a 42), .ref (a 43)])), ((a 21), .inl ((ca 21), 2, .inl (fun _ => 0))), ((a 20), .inl ((ca 20), 2, .inl (fun _ => 0)))]) (w1 := []) hP hD [0, 1, 2] [3, 4, 5] rfl rfl (by decide) (by decide) hk1 hFc va_P0 va_D0
  generalize H1 = H at hP hS ⊢
  have hP : va_P (dC, dI) vwCl [(m0, .inr (8, [.int 0, .int 0, .int 0, .int 0, .ref (a 4), .int 0, .int 0, .int 0, .int 0, .int 0, .int 0, .long 0, .int 0, .int 0, .int 0, .int 0, .int 0, .int 0, .ref (a 18), .ref (a 19), .ref (a 20), .ref (a 21), .ref (a 22), .ref (a 23), .ref (a 24), .ref (a 25), .ref (a 26), .ref (a 27), .ref (a 28), .ref (a 29), .ref (a 30), .ref (a 31), .ref (a 32), .ref (a 33), .ref (a 34), .ref (a 35), .long 0, .int 0, .ref (a 38), .ref (a 39), .int 0, .ref (a 41), .ref (a 42), .ref (a 43)])), ((a 21), .inl ((ca 21), 2, .inl (fun _ => 0))), ((a 20), .inl ((ca 20), 2, .inl (fun _ => 0)))] H := hP
  have hD : va_D A [(m0, .inr (8, [.int 0, .int 0, .int 0, .int 0, .ref (a 4), .int 0, .int 0, .int 0, .int 0, .int 0, .int 0, .long 0, .int 0, .int 0, .int 0, .int 0, .int 0, .int 0, .ref (a 18), .ref (a 19), .ref (a 20), .ref (a 21), .ref (a 22), .ref (a 23), .ref (a 24), .ref (a 25), .ref (a 26), .ref (a 27), .ref (a 28), .ref (a 29), .ref (a 30), .ref (a 31), .ref (a 32), .ref (a 33), .ref (a 34), .ref (a 35), .long 0, .int 0, .ref (a 38), .ref (a 39), .int 0, .ref (a 41), .ref (a 42), .ref (a 43)])), ((a 21), .inl ((ca 21), 2, .inl (fun _ => 0))), ((a 20), .inl ((ca 20), 2, .inl (fun _ => 0)))] := hD
  refine W.widen (k := 243) (n := 7586) (Nat.le_of_ble_eq_true rfl) (Nat.le_of_ble_eq_true rfl) ?_
  have h_u1 : r2 = 0 := h_u1
  subst h_u1
  refine lv_aload_n hx hb dL_law_818 rfl (lv_at hl 2 rfl) ?_
  refine lv_aload_n hx hb dL_law_819 rfl (lv_at hl 4 rfl) ?_
  refine lv_iload hx hb dL_law_820 (lv_at hl 0 rfl) ?_
  refine lv_iconst (v := 1) hx hb dL_law_822 (by decide) ?_
  refine lv_iadd hx hb dL_law_823 ?_
  refine cst (v := 1) (by decide) ?_
  refine va_sld hx hb hX hbl hbA hS (vin0 (by decide)) dL_law_824 ?_
  refine cst (v := (nI dn)) ((congrArg xs (show (1 : Int32).toNatClampNeg = 1 by decide)).trans hq1) ?_
  refine lv_aload_n hx hb dL_law_825 rfl (lv_at hl 4 rfl) ?_
  refine lv_iload hx hb dL_law_826 (lv_at hl 0 rfl) ?_
  refine lv_iconst (v := 2) hx hb dL_law_828 (by decide) ?_
  refine lv_iadd hx hb dL_law_829 ?_
  refine cst (v := 2) (by decide) ?_
  refine va_sld hx hb hX hbl hbA hS (vin0 (by decide)) dL_law_830 ?_
  refine cst (v := (nI rn)) ((congrArg xs (show (2 : Int32).toNatClampNeg = 2 by decide)).trans hq2) ?_
  have hPc := hP.sub (ws' := [(m0, .inr (8, [.int 0, .int 0, .int 0, .int 0, .ref (a 4), .int 0, .int 0, .int 0, .int 0, .int 0, .int 0, .long 0, .int 0, .int 0, .int 0, .int 0, .int 0, .int 0, .ref (a 18), .ref (a 19), .ref (a 20), .ref (a 21), .ref (a 22), .ref (a 23), .ref (a 24), .ref (a 25), .ref (a 26), .ref (a 27), .ref (a 28), .ref (a 29), .ref (a 30), .ref (a 31), .ref (a 32), .ref (a 33), .ref (a 34), .ref (a 35), .long 0, .int 0, .ref (a 38), .ref (a 39), .int 0, .ref (a 41), .ref (a 42), .ref (a 43)])), ((a 21), .inl ((ca 21), 2, .inl (fun _ => 0))), ((a 20), .inl ((ca 20), 2, .inl (fun _ => 0)))]) [0, 1, 2] rfl
  have hKc := hK.sub (tys' := [((ca 21), .int), ((ca 20), .int)]) [0, 1] rfl
  have hDc := hD.sub (ws' := [(m0, .inr (8, [.int 0, .int 0, .int 0, .int 0, .ref (a 4), .int 0, .int 0, .int 0, .int 0, .int 0, .int 0, .long 0, .int 0, .int 0, .int 0, .int 0, .int 0, .int 0, .ref (a 18), .ref (a 19), .ref (a 20), .ref (a 21), .ref (a 22), .ref (a 23), .ref (a 24), .ref (a 25), .ref (a 26), .ref (a 27), .ref (a 28), .ref (a 29), .ref (a 30), .ref (a 31), .ref (a 32), .ref (a 33), .ref (a 34), .ref (a 35), .long 0, .int 0, .ref (a 38), .ref (a 39), .int 0, .ref (a 41), .ref (a 42), .ref (a 43)])), ((a 21), .inl ((ca 21), 2, .inl (fun _ => 0))), ((a 20), .inl ((ca 20), 2, .inl (fun _ => 0)))]) [0, 1, 2] (by decide) rfl
  have hFc := va_free (wc := [(m0, .inr (8, [.int 0, .int 0, .int 0, .int 0, .ref (a 4), .int 0, .int 0, .int 0, .int 0, .int 0, .int 0, .long 0, .int 0, .int 0, .int 0, .int 0, .int 0, .int 0, .ref (a 18), .ref (a 19), .ref (a 20), .ref (a 21), .ref (a 22), .ref (a 23), .ref (a 24), .ref (a 25), .ref (a 26), .ref (a 27), .ref (a 28), .ref (a 29), .ref (a 30), .ref (a 31), .ref (a 32), .ref (a 33), .ref (a 34), .ref (a 35), .long 0, .int 0, .ref (a 38), .ref (a 39), .int 0, .ref (a 41), .ref (a 42), .ref (a 43)])), ((a 21), .inl ((ca 21), 2, .inl (fun _ => 0))), ((a 20), .inl ((ca 20), 2, .inl (fun _ => 0)))]) hD hS hA [0, 1, 2] rfl
  refine va_calli (va_runV (As := [.int (nI dn), .int (nI rn)]) (rest := [.int 0]) ⟨hx, hb, hml, hown, hts⟩ (c_9open_A l dC dI g H.size (m0) (a) (ca) (dn) (rn) hdn hrn) (cwV 2 hts (gwV qw_514 qw_515 qw_516 qw_23 qw_513) rfl rfl rfl (by decide +kernel) ⟨Nat.le_of_ble_eq_true rfl, Nat.le_of_ble_eq_true rfl⟩) ⟨fun a U g9 mk q => ⟨q.1, q.2.1, q.2.2.1, va_K.moved (u := U) (U := U.calling g9 mk a) (Vm.Alike.refl U.vm) q.2.2.2.1, q.2.2.2.2.1, Ev.bl q.2.2.2.2.2⟩, va_recv hK hP (ci := 8) (q0 := 0) rfl rfl, fun U hU hW => ⟨rfl, by rw [hU], by rw [hU]; exact hPc, va_K.moved hW.alike hKc, hDc.weaken (fun _ _ _ _ => trivial), hE.go hS hFc hU hW⟩⟩ rfl rfl hl.1 rfl (lv_room (Nat.le_of_ble_eq_true rfl)) dL_law_831 ⟨Nat.le_of_ble_eq_true rfl, Nat.le_of_ble_eq_true rfl⟩) hS (fun q _ h => hFc q h) hFc (fun r4 u3 t H1 locs ht hvm h_u3 hB hz1 hk1 hS => ?_)
  obtain ⟨hP, hD⟩ := va_join (wr := []) (w1 := []) hP hD [0, 1, 2] [] rfl rfl (by decide) (by decide) hk1 hFc va_P0 va_D0
  generalize H1 = H at hP hS ⊢
  have hP : va_P (dC, dI) vwCl [] H := hP
  have hD : va_D A [] := hD
  refine W.widen (k := 243) (n := 7586) (Nat.le_of_ble_eq_true rfl) (Nat.le_of_ble_eq_true rfl) ?_
  have h_u3 : r4 = 0 := h_u3
  subst h_u3
  refine lv_icmp_eq (tgt := 1311) hx hb dL_law_834 (by decide) (fun c834_5 => ?_) (fun c834_5 => by exfalso; exact absurd c834_5 (by decide))
  refine lv_iinc (v := 6) (lv' := [(4, .int 6), (3, .ref o0), (2, .ref m0), (1, .ref x0), (0, .ref b0)]) hx hb dL_law_1311 hl (k := 0) rfl (by decide) (by decide) rfl (fun ls hl => ?_)
  refine lv_goto (tgt := 23) hx hb dL_law_1314 (by decide) ?_
  refine lv_iload hx hb dL_law_23 (lv_at hl 0 rfl) ?_
  refine lv_aload_n hx hb dL_law_25 rfl (lv_at hl 4 rfl) ?_
  refine va_slen hx hb hX hbl hbA hS dL_law_26 ?_
  refine cst (v := 6) (by decide) ?_
  refine lv_bipush (v := 6) hx hb dL_law_27 (by decide) ?_
  refine lv_isub hx hb dL_law_29 ?_
  refine cst (v := 0) (by decide) ?_
  refine lv_icmp_gt (tgt := 1317) hx hb dL_law_30 (by decide) (fun c30_6 => ?_) (fun c30_6 => by exfalso; exact absurd c30_6 (by decide))
  refine lv_iconst (v := 1) hx hb dL_law_1317 (by decide) ?_
  refine va_forget (fun q h => by have h8 := hS.2.2 q h; rw [← hAe] at h8; exact h8) ?_
  refine W.widen (k := 600002) (n := 7302232) (Nat.le_of_ble_eq_true rfl) (Nat.le_of_ble_eq_true rfl) ?_
  exact lw_ret hx hb hr hlocks dL_law_1318
set_option maxHeartbeats 4000000 in
set_option maxRecDepth 100000 in
theorem law_15B {p : Program} {e : Env} {s : State} {m : MethodId} {below : List Frame} {meth : Method} {c : Code} (l : Launch) {b0 : Nat} {xs : Nat → Int32} (C0 : lw_At p s m meth c b0 6 xs) (dC : Nat → ClassId) (dI : Nat → Nat → Nat) (g : Gv) (x0 : Nat) (b : Nat → Nat) (f4 : Nat → Nat) (c4 : ClassId) (f5 : Nat → Nat) (f7 : Nat → Nat) (f6 : Nat → Nat) (f2 : Nat → Nat) (cK : ClassId) (kf : Nat → Option Nat) (cZ : ClassId) (fT : Nat → Nat) (fU : Nat → Nat) (sa : Nat → Nat) (sf : Nat → Nat → Nat) (sc : Nat → Nat → ClassId) (spf : Nat → Nat → Int32) (sdf : Nat → Nat → Int32) (slf : Nat → Nat → Int32) (srf : Nat → Nat → Int32) (sga : Nat → Nat → Option Nat) (sgb : Nat → Nat → Option Nat) (rows : va_W) (m0 : Nat) (a : Nat → Nat) (ca : Nat → ClassId) (o0 : Nat)  (hdo : ¬ (0 ≤ (xs 1).toInt ∧ (xs 1).toInt ≤ 219145)) {H : Heap} {locs : List Loc} {ls : Array Slot} (hK : va_K (dC, dI) vwCl [((ca 21), .int), ((ca 20), .int)] s) (hP : va_P (dC, dI) vwCl [(x0, .inr (7, [.ref (b 0), .ref (b 1), .ref (b 2), .ref (b 3), .ref (b 4), .ref (b 5), .ref (b 6), .ref (b 7), .ref (b 8), .ref (b 9), .int 1])), ((b 2), .inr (5, [.ref (f6 0), .ref (f6 1), .ref (f6 2), .ref (f6 3), .ref (f6 4), .ref (f6 5), .int 0, .int 0])), ((b 6), .inr (0, [.int 0, .ref (fT 1), .int 0, .ref (fT 3), .int 0, .ref (fT 5), .ref (fT 6), .ref (fT 7), .int 0, .ref (fT 9), .ref (fT 10), .ref (fT 11), .ref (fT 12), .ref (fT 13)])), (m0, .inr (8, [.int 0, .int 0, .int 0, .int 0, .ref (a 4), .int 0, .int 0, .int 0, .int 0, .int 0, .int 0, .long 0, .int 0, .int 0, .int 0, .int 0, .int 0, .int 0, .ref (a 18), .ref (a 19), .ref (a 20), .ref (a 21), .ref (a 22), .ref (a 23), .ref (a 24), .ref (a 25), .ref (a 26), .ref (a 27), .ref (a 28), .ref (a 29), .ref (a 30), .ref (a 31), .ref (a 32), .ref (a 33), .ref (a 34), .ref (a 35), .long 0, .int 0, .ref (a 38), .ref (a 39), .int 0, .ref (a 41), .ref (a 42), .ref (a 43)])), ((a 21), .inl ((ca 21), 2, .inl (fun _ => 0))), ((a 20), .inl ((ca 20), 2, .inl (fun _ => 0)))] H) (hD : va_D (fun q : Nat => s.heap.size ≤ q) [(x0, .inr (7, [.ref (b 0), .ref (b 1), .ref (b 2), .ref (b 3), .ref (b 4), .ref (b 5), .ref (b 6), .ref (b 7), .ref (b 8), .ref (b 9), .int 1])), ((b 2), .inr (5, [.ref (f6 0), .ref (f6 1), .ref (f6 2), .ref (f6 3), .ref (f6 4), .ref (f6 5), .int 0, .int 0])), ((b 6), .inr (0, [.int 0, .ref (fT 1), .int 0, .ref (fT 3), .int 0, .ref (fT 5), .ref (fT 6), .ref (fT 7), .int 0, .ref (fT 9), .ref (fT 10), .ref (fT 11), .ref (fT 12), .ref (fT 13)])), (m0, .inr (8, [.int 0, .int 0, .int 0, .int 0, .ref (a 4), .int 0, .int 0, .int 0, .int 0, .int 0, .int 0, .long 0, .int 0, .int 0, .int 0, .int 0, .int 0, .int 0, .ref (a 18), .ref (a 19), .ref (a 20), .ref (a 21), .ref (a 22), .ref (a 23), .ref (a 24), .ref (a 25), .ref (a 26), .ref (a 27), .ref (a 28), .ref (a 29), .ref (a 30), .ref (a 31), .ref (a 32), .ref (a 33), .ref (a 34), .ref (a 35), .long 0, .int 0, .ref (a 38), .ref (a 39), .int 0, .ref (a 41), .ref (a 42), .ref (a 43)])), ((a 21), .inl ((ca 21), 2, .inl (fun _ => 0))), ((a 20), .inl ((ca 20), 2, .inl (fun _ => 0)))]) (hS : va_S (fun q : Nat => s.heap.size ≤ q) s.heap H locs) (hE : Ev g (fun q : Nat => s.heap.size ≤ q) s) (hl : lv_has ls 7 [(4, .int 0), (3, .ref o0), (2, .ref m0), (1, .ref x0), (0, .ref b0)]) : W p l e room_1 s m #[Value.ref b0] below meth c H locs 243 7586 (lw_Z below #[Value.ref b0] s) (F0 m 802 ls []) := by
  obtain ⟨hx, hb, hr, hml, hown, hts0, hX, hbl, hlocks, hgv⟩ := id C0
  have hts := fun (w : Cond) (h : w ∈ TBL) => hts0 w (TBin w h)
  have hown : s.vm.findClass RL = some m.cls := hown
  have hN := hE.1
  have hA : ∀ q : Nat, s.heap.size ≤ q → (fun q : Nat => s.heap.size ≤ q) q := fun _ h => h
  have hbA : ¬ (fun q : Nat => s.heap.size ≤ q) b0 := Nat.not_le.mpr hbl
  generalize hAe : (fun q : Nat => s.heap.size ≤ q) = A at hD hS hE hA hbA
  refine lv_aload_n hx hb dL_law_802 rfl (lv_at hl 3 rfl) ?_
  refine lv_aload_n hx hb dL_law_803 rfl (lv_at hl 4 rfl) ?_
  refine lv_iload hx hb dL_law_804 (lv_at hl 0 rfl) ?_
  refine lv_iconst (v := 1) hx hb dL_law_806 (by decide) ?_
  refine lv_iadd hx hb dL_law_807 ?_
  refine cst (v := 1) (by decide) ?_
  refine va_sld hx hb hX hbl hbA hS (vin0 (by decide)) dL_law_808 ?_
  refine cst (v := (xs 1)) (congrArg xs (show (1 : Int32).toNatClampNeg = 1 by decide)) ?_
  refine lv_aload_n hx hb dL_law_809 rfl (lv_at hl 4 rfl) ?_
  refine lv_iload hx hb dL_law_810 (lv_at hl 0 rfl) ?_
  refine lv_iconst (v := 2) hx hb dL_law_812 (by decide) ?_
  refine lv_iadd hx hb dL_law_813 ?_
  refine cst (v := 2) (by decide) ?_
  refine va_sld hx hb hX hbl hbA hS (vin0 (by decide)) dL_law_814 ?_
  refine cst (v := (xs 2)) (congrArg xs (show (2 : Int32).toNatClampNeg = 2 by decide)) ?_
  have hPc := hP.sub (ws' := [(x0, .inr (7, [.ref (b 0), .ref (b 1), .ref (b 2), .ref (b 3), .ref (b 4), .ref (b 5), .ref (b 6), .ref (b 7), .ref (b 8), .ref (b 9), .int 1])), ((b 2), .inr (5, [.ref (f6 0), .ref (f6 1), .ref (f6 2), .ref (f6 3), .ref (f6 4), .ref (f6 5), .int 0, .int 0])), ((b 6), .inr (0, [.int 0, .ref (fT 1), .int 0, .ref (fT 3), .int 0, .ref (fT 5), .ref (fT 6), .ref (fT 7), .int 0, .ref (fT 9), .ref (fT 10), .ref (fT 11), .ref (fT 12), .ref (fT 13)]))]) [0, 1, 2] rfl
  have hKc := hK.sub (tys' := []) [] rfl
  have hDc := hD.sub (ws' := [(x0, .inr (7, [.ref (b 0), .ref (b 1), .ref (b 2), .ref (b 3), .ref (b 4), .ref (b 5), .ref (b 6), .ref (b 7), .ref (b 8), .ref (b 9), .int 1])), ((b 2), .inr (5, [.ref (f6 0), .ref (f6 1), .ref (f6 2), .ref (f6 3), .ref (f6 4), .ref (f6 5), .int 0, .int 0])), ((b 6), .inr (0, [.int 0, .ref (fT 1), .int 0, .ref (fT 3), .int 0, .ref (fT 5), .ref (fT 6), .ref (fT 7), .int 0, .ref (fT 9), .ref (fT 10), .ref (fT 11), .ref (fT 12), .ref (fT 13)]))]) [0, 1, 2] (by decide) rfl
  have hFc := va_free (wc := [(x0, .inr (7, [.ref (b 0), .ref (b 1), .ref (b 2), .ref (b 3), .ref (b 4), .ref (b 5), .ref (b 6), .ref (b 7), .ref (b 8), .ref (b 9), .int 1])), ((b 2), .inr (5, [.ref (f6 0), .ref (f6 1), .ref (f6 2), .ref (f6 3), .ref (f6 4), .ref (f6 5), .int 0, .int 0])), ((b 6), .inr (0, [.int 0, .ref (fT 1), .int 0, .ref (fT 3), .int 0, .ref (fT 5), .ref (fT 6), .ref (fT 7), .int 0, .ref (fT 9), .ref (fT 10), .ref (fT 11), .ref (fT 12), .ref (fT 13)]))]) hD hS hA [0, 1, 2] rfl
  refine va_calli (va_runV (As := [.int (xs 1), .int (xs 2)]) (rest := []) ⟨hx, hb, hml, hown, hts⟩ (c_8open_B l dC dI g H.size (x0) (b) (f4) (c4) (f5) (f7) (f6) (f2) (cK) (kf) (cZ) (fT) (fU) (sa) (sf) (sc) (spf) (sdf) (slf) (srf) (sga) (sgb) (rows) ((xs 1)) ((xs 2)) hdo) (cwV 2 hts (gwV qw_510 qw_511 qw_512 qw_69 qw_509) rfl rfl rfl (by decide +kernel) ⟨Nat.le_of_ble_eq_true rfl, Nat.le_of_ble_eq_true rfl⟩) ⟨fun a U g9 mk q => ⟨q.1, q.2.1, q.2.2.1, va_K.moved (u := U) (U := U.calling g9 mk a) (Vm.Alike.refl U.vm) q.2.2.2.1, q.2.2.2.2.1, Ev.bl q.2.2.2.2.2⟩, va_recv hK hP (ci := 7) (q0 := 0) rfl rfl, fun U hU hW => ⟨rfl, by rw [hU], by rw [hU]; exact hPc, va_K.moved hW.alike hKc, hDc.weaken (fun _ _ _ _ => trivial), hE.go hS hFc hU hW⟩⟩ rfl rfl hl.1 rfl (lv_room (Nat.le_of_ble_eq_true rfl)) dL_law_815 ⟨Nat.le_of_ble_eq_true rfl, Nat.le_of_ble_eq_true rfl⟩) hS (fun q _ h => hFc q h) hFc (fun r2 u1 t H1 locs ht hvm h_u1 hB hz1 hk1 hS => ?_)
  obtain ⟨hP, hD⟩ := va_join (wr := [(m0, .inr (8, [.int 0, .int 0, .int 0, .int 0, .ref (a 4), .int 0, .int 0, .int 0, .int 0, .int 0, .int 0, .long 0, .int 0, .int 0, .int 0, .int 0, .int 0, .int 0, .ref (a 18), .ref (a 19), .ref (a 20), .ref (a 21), .ref (a 22), .ref (a 23), .ref (a 24), .ref (a 25), .ref (a 26), .ref (a 27), .ref (a 28), .ref (a 29), .ref (a 30), .ref (a 31), .ref (a 32), .ref (a 33), .ref (a 34), .ref (a 35), .long 0, .int 0, .ref (a 38), .ref (a 39), .int 0, .ref (a 41), .ref (a 42), .ref (a 43)])), ((a 21), .inl ((ca 21), 2, .inl (fun _ => 0))), ((a 20), .inl ((ca 20), 2, .inl (fun _ => 0)))]) (w1 := []) hP hD [0, 1, 2] [3, 4, 5] rfl rfl (by decide) (by decide) hk1 hFc va_P0 va_D0
  generalize H1 = H at hP hS ⊢
  have hP : va_P (dC, dI) vwCl [(m0, .inr (8, [.int 0, .int 0, .int 0, .int 0, .ref (a 4), .int 0, .int 0, .int 0, .int 0, .int 0, .int 0, .long 0, .int 0, .int 0, .int 0, .int 0, .int 0, .int 0, .ref (a 18), .ref (a 19), .ref (a 20), .ref (a 21), .ref (a 22), .ref (a 23), .ref (a 24), .ref (a 25), .ref (a 26), .ref (a 27), .ref (a 28), .ref (a 29), .ref (a 30), .ref (a 31), .ref (a 32), .ref (a 33), .ref (a 34), .ref (a 35), .long 0, .int 0, .ref (a 38), .ref (a 39), .int 0, .ref (a 41), .ref (a 42), .ref (a 43)])), ((a 21), .inl ((ca 21), 2, .inl (fun _ => 0))), ((a 20), .inl ((ca 20), 2, .inl (fun _ => 0)))] H := hP
  have hD : va_D A [(m0, .inr (8, [.int 0, .int 0, .int 0, .int 0, .ref (a 4), .int 0, .int 0, .int 0, .int 0, .int 0, .int 0, .long 0, .int 0, .int 0, .int 0, .int 0, .int 0, .int 0, .ref (a 18), .ref (a 19), .ref (a 20), .ref (a 21), .ref (a 22), .ref (a 23), .ref (a 24), .ref (a 25), .ref (a 26), .ref (a 27), .ref (a 28), .ref (a 29), .ref (a 30), .ref (a 31), .ref (a 32), .ref (a 33), .ref (a 34), .ref (a 35), .long 0, .int 0, .ref (a 38), .ref (a 39), .int 0, .ref (a 41), .ref (a 42), .ref (a 43)])), ((a 21), .inl ((ca 21), 2, .inl (fun _ => 0))), ((a 20), .inl ((ca 20), 2, .inl (fun _ => 0)))] := hD
  refine W.widen (k := 243) (n := 7586) (Nat.le_of_ble_eq_true rfl) (Nat.le_of_ble_eq_true rfl) ?_
  have h_u1 : r2 = (-1) := h_u1
  subst h_u1
  refine lv_aload_n hx hb dL_law_818 rfl (lv_at hl 2 rfl) ?_
  refine lv_aload_n hx hb dL_law_819 rfl (lv_at hl 4 rfl) ?_
  refine lv_iload hx hb dL_law_820 (lv_at hl 0 rfl) ?_
  refine lv_iconst (v := 1) hx hb dL_law_822 (by decide) ?_
  refine lv_iadd hx hb dL_law_823 ?_
  refine cst (v := 1) (by decide) ?_
  refine va_sld hx hb hX hbl hbA hS (vin0 (by decide)) dL_law_824 ?_
  refine cst (v := (xs 1)) (congrArg xs (show (1 : Int32).toNatClampNeg = 1 by decide)) ?_
  refine lv_aload_n hx hb dL_law_825 rfl (lv_at hl 4 rfl) ?_
  refine lv_iload hx hb dL_law_826 (lv_at hl 0 rfl) ?_
  refine lv_iconst (v := 2) hx hb dL_law_828 (by decide) ?_
  refine lv_iadd hx hb dL_law_829 ?_
  refine cst (v := 2) (by decide) ?_
  refine va_sld hx hb hX hbl hbA hS (vin0 (by decide)) dL_law_830 ?_
  refine cst (v := (xs 2)) (congrArg xs (show (2 : Int32).toNatClampNeg = 2 by decide)) ?_
  have hPc := hP.sub (ws' := [(m0, .inr (8, [.int 0, .int 0, .int 0, .int 0, .ref (a 4), .int 0, .int 0, .int 0, .int 0, .int 0, .int 0, .long 0, .int 0, .int 0, .int 0, .int 0, .int 0, .int 0, .ref (a 18), .ref (a 19), .ref (a 20), .ref (a 21), .ref (a 22), .ref (a 23), .ref (a 24), .ref (a 25), .ref (a 26), .ref (a 27), .ref (a 28), .ref (a 29), .ref (a 30), .ref (a 31), .ref (a 32), .ref (a 33), .ref (a 34), .ref (a 35), .long 0, .int 0, .ref (a 38), .ref (a 39), .int 0, .ref (a 41), .ref (a 42), .ref (a 43)])), ((a 21), .inl ((ca 21), 2, .inl (fun _ => 0))), ((a 20), .inl ((ca 20), 2, .inl (fun _ => 0)))]) [0, 1, 2] rfl
  have hKc := hK.sub (tys' := [((ca 21), .int), ((ca 20), .int)]) [0, 1] rfl
  have hDc := hD.sub (ws' := [(m0, .inr (8, [.int 0, .int 0, .int 0, .int 0, .ref (a 4), .int 0, .int 0, .int 0, .int 0, .int 0, .int 0, .long 0, .int 0, .int 0, .int 0, .int 0, .int 0, .int 0, .ref (a 18), .ref (a 19), .ref (a 20), .ref (a 21), .ref (a 22), .ref (a 23), .ref (a 24), .ref (a 25), .ref (a 26), .ref (a 27), .ref (a 28), .ref (a 29), .ref (a 30), .ref (a 31), .ref (a 32), .ref (a 33), .ref (a 34), .ref (a 35), .long 0, .int 0, .ref (a 38), .ref (a 39), .int 0, .ref (a 41), .ref (a 42), .ref (a 43)])), ((a 21), .inl ((ca 21), 2, .inl (fun _ => 0))), ((a 20), .inl ((ca 20), 2, .inl (fun _ => 0)))]) [0, 1, 2] (by decide) rfl
  have hFc := va_free (wc := [(m0, .inr (8, [.int 0, .int 0, .int 0, .int 0, .ref (a 4), .int 0, .int 0, .int 0, .int 0, .int 0, .int 0, .long 0, .int 0, .int 0, .int 0, .int 0, .int 0, .int 0, .ref (a 18), .ref (a 19), .ref (a 20), .ref (a 21), .ref (a 22), .ref (a 23), .ref (a 24), .ref (a 25), .ref (a 26), .ref (a 27), .ref (a 28), .ref (a 29), .ref (a 30), .ref (a 31), .ref (a 32), .ref (a 33), .ref (a 34), .ref (a 35), .long 0, .int 0, .ref (a 38), .ref (a 39), .int 0, .ref (a 41), .ref (a 42), .ref (a 43)])), ((a 21), .inl ((ca 21), 2, .inl (fun _ => 0))), ((a 20), .inl ((ca 20), 2, .inl (fun _ => 0)))]) hD hS hA [0, 1, 2] rfl
  refine va_calli (va_runV (As := [.int (xs 1), .int (xs 2)]) (rest := [.int (-1)]) ⟨hx, hb, hml, hown, hts⟩ (c_9open_B l dC dI g H.size (m0) (a) (ca) ((xs 1)) ((xs 2)) hdo) (cwV 2 hts (gwV qw_514 qw_515 qw_516 qw_23 qw_513) rfl rfl rfl (by decide +kernel) ⟨Nat.le_of_ble_eq_true rfl, Nat.le_of_ble_eq_true rfl⟩) ⟨fun a U g9 mk q => ⟨q.1, q.2.1, q.2.2.1, va_K.moved (u := U) (U := U.calling g9 mk a) (Vm.Alike.refl U.vm) q.2.2.2.1, q.2.2.2.2.1, Ev.bl q.2.2.2.2.2⟩, va_recv hK hP (ci := 8) (q0 := 0) rfl rfl, fun U hU hW => ⟨rfl, by rw [hU], by rw [hU]; exact hPc, va_K.moved hW.alike hKc, hDc.weaken (fun _ _ _ _ => trivial), hE.go hS hFc hU hW⟩⟩ rfl rfl hl.1 rfl (lv_room (Nat.le_of_ble_eq_true rfl)) dL_law_831 ⟨Nat.le_of_ble_eq_true rfl, Nat.le_of_ble_eq_true rfl⟩) hS (fun q _ h => hFc q h) hFc (fun r4 u3 t H1 locs ht hvm h_u3 hB hz1 hk1 hS => ?_)
  obtain ⟨hP, hD⟩ := va_join (wr := []) (w1 := []) hP hD [0, 1, 2] [] rfl rfl (by decide) (by decide) hk1 hFc va_P0 va_D0
  generalize H1 = H at hP hS ⊢
  have hP : va_P (dC, dI) vwCl [] H := hP
  have hD : va_D A [] := hD
  refine W.widen (k := 243) (n := 7586) (Nat.le_of_ble_eq_true rfl) (Nat.le_of_ble_eq_true rfl) ?_
  have h_u3 : r4 = (-1) := h_u3
  subst h_u3
  refine lv_icmp_eq (tgt := 1311) hx hb dL_law_834 (by decide) (fun c834_5 => ?_) (fun c834_5 => by exfalso; exact absurd c834_5 (by decide))
  refine lv_iinc (v := 6) (lv' := [(4, .int 6), (3, .ref o0), (2, .ref m0), (1, .ref x0), (0, .ref b0)]) hx hb dL_law_1311 hl (k := 0) rfl (by decide) (by decide) rfl (fun ls hl => ?_)
  refine lv_goto (tgt := 23) hx hb dL_law_1314 (by decide) ?_
  refine lv_iload hx hb dL_law_23 (lv_at hl 0 rfl) ?_
  refine lv_aload_n hx hb dL_law_25 rfl (lv_at hl 4 rfl) ?_
  refine va_slen hx hb hX hbl hbA hS dL_law_26 ?_
  refine cst (v := 6) (by decide) ?_
  refine lv_bipush (v := 6) hx hb dL_law_27 (by decide) ?_
  refine lv_isub hx hb dL_law_29 ?_
  refine cst (v := 0) (by decide) ?_
  refine lv_icmp_gt (tgt := 1317) hx hb dL_law_30 (by decide) (fun c30_6 => ?_) (fun c30_6 => by exfalso; exact absurd c30_6 (by decide))
  refine lv_iconst (v := 1) hx hb dL_law_1317 (by decide) ?_
  refine va_forget (fun q h => by have h8 := hS.2.2 q h; rw [← hAe] at h8; exact h8) ?_
  refine W.widen (k := 600002) (n := 7302232) (Nat.le_of_ble_eq_true rfl) (Nat.le_of_ble_eq_true rfl) ?_
  exact lw_ret hx hb hr hlocks dL_law_1318
set_option maxHeartbeats 4000000 in
set_option maxRecDepth 100000 in
theorem law_15C {p : Program} {e : Env} {s : State} {m : MethodId} {below : List Frame} {meth : Method} {c : Code} (l : Launch) {b0 : Nat} {xs : Nat → Int32} (C0 : lw_At p s m meth c b0 6 xs) (dC : Nat → ClassId) (dI : Nat → Nat → Nat) (g : Gv) (x0 : Nat) (b : Nat → Nat) (f4 : Nat → Nat) (c4 : ClassId) (f5 : Nat → Nat) (f7 : Nat → Nat) (f6 : Nat → Nat) (f2 : Nat → Nat) (cK : ClassId) (kf : Nat → Option Nat) (cZ : ClassId) (fT : Nat → Nat) (fU : Nat → Nat) (sa : Nat → Nat) (sf : Nat → Nat → Nat) (sc : Nat → Nat → ClassId) (spf : Nat → Nat → Int32) (sdf : Nat → Nat → Int32) (slf : Nat → Nat → Int32) (srf : Nat → Nat → Int32) (sga : Nat → Nat → Option Nat) (sgb : Nat → Nat → Option Nat) (rows : va_W) (m0 : Nat) (a : Nat → Nat) (ca : Nat → ClassId) (o0 : Nat) (dn : Nat) (hq1 : xs 1 = (nI dn)) (hdn : dn ≤ 219145) (hro0 : ¬ (0 ≤ (xs 2).toInt ∧ (xs 2).toInt ≤ 15)) {H : Heap} {locs : List Loc} {ls : Array Slot} (hK : va_K (dC, dI) vwCl [((ca 21), .int), ((ca 20), .int)] s) (hP : va_P (dC, dI) vwCl [(x0, .inr (7, [.ref (b 0), .ref (b 1), .ref (b 2), .ref (b 3), .ref (b 4), .ref (b 5), .ref (b 6), .ref (b 7), .ref (b 8), .ref (b 9), .int 1])), ((b 2), .inr (5, [.ref (f6 0), .ref (f6 1), .ref (f6 2), .ref (f6 3), .ref (f6 4), .ref (f6 5), .int 0, .int 0])), ((b 6), .inr (0, [.int 0, .ref (fT 1), .int 0, .ref (fT 3), .int 0, .ref (fT 5), .ref (fT 6), .ref (fT 7), .int 0, .ref (fT 9), .ref (fT 10), .ref (fT 11), .ref (fT 12), .ref (fT 13)])), (m0, .inr (8, [.int 0, .int 0, .int 0, .int 0, .ref (a 4), .int 0, .int 0, .int 0, .int 0, .int 0, .int 0, .long 0, .int 0, .int 0, .int 0, .int 0, .int 0, .int 0, .ref (a 18), .ref (a 19), .ref (a 20), .ref (a 21), .ref (a 22), .ref (a 23), .ref (a 24), .ref (a 25), .ref (a 26), .ref (a 27), .ref (a 28), .ref (a 29), .ref (a 30), .ref (a 31), .ref (a 32), .ref (a 33), .ref (a 34), .ref (a 35), .long 0, .int 0, .ref (a 38), .ref (a 39), .int 0, .ref (a 41), .ref (a 42), .ref (a 43)])), ((a 21), .inl ((ca 21), 2, .inl (fun _ => 0))), ((a 20), .inl ((ca 20), 2, .inl (fun _ => 0)))] H) (hD : va_D (fun q : Nat => s.heap.size ≤ q) [(x0, .inr (7, [.ref (b 0), .ref (b 1), .ref (b 2), .ref (b 3), .ref (b 4), .ref (b 5), .ref (b 6), .ref (b 7), .ref (b 8), .ref (b 9), .int 1])), ((b 2), .inr (5, [.ref (f6 0), .ref (f6 1), .ref (f6 2), .ref (f6 3), .ref (f6 4), .ref (f6 5), .int 0, .int 0])), ((b 6), .inr (0, [.int 0, .ref (fT 1), .int 0, .ref (fT 3), .int 0, .ref (fT 5), .ref (fT 6), .ref (fT 7), .int 0, .ref (fT 9), .ref (fT 10), .ref (fT 11), .ref (fT 12), .ref (fT 13)])), (m0, .inr (8, [.int 0, .int 0, .int 0, .int 0, .ref (a 4), .int 0, .int 0, .int 0, .int 0, .int 0, .int 0, .long 0, .int 0, .int 0, .int 0, .int 0, .int 0, .int 0, .ref (a 18), .ref (a 19), .ref (a 20), .ref (a 21), .ref (a 22), .ref (a 23), .ref (a 24), .ref (a 25), .ref (a 26), .ref (a 27), .ref (a 28), .ref (a 29), .ref (a 30), .ref (a 31), .ref (a 32), .ref (a 33), .ref (a 34), .ref (a 35), .long 0, .int 0, .ref (a 38), .ref (a 39), .int 0, .ref (a 41), .ref (a 42), .ref (a 43)])), ((a 21), .inl ((ca 21), 2, .inl (fun _ => 0))), ((a 20), .inl ((ca 20), 2, .inl (fun _ => 0)))]) (hS : va_S (fun q : Nat => s.heap.size ≤ q) s.heap H locs) (hE : Ev g (fun q : Nat => s.heap.size ≤ q) s) (hl : lv_has ls 7 [(4, .int 0), (3, .ref o0), (2, .ref m0), (1, .ref x0), (0, .ref b0)]) : W p l e room_1 s m #[Value.ref b0] below meth c H locs 243 7586 (lw_Z below #[Value.ref b0] s) (F0 m 802 ls []) := by
  obtain ⟨hx, hb, hr, hml, hown, hts0, hX, hbl, hlocks, hgv⟩ := id C0
  have hts := fun (w : Cond) (h : w ∈ TBL) => hts0 w (TBin w h)
  have hown : s.vm.findClass RL = some m.cls := hown
  have hN := hE.1
  have hA : ∀ q : Nat, s.heap.size ≤ q → (fun q : Nat => s.heap.size ≤ q) q := fun _ h => h
  have hbA : ¬ (fun q : Nat => s.heap.size ≤ q) b0 := Nat.not_le.mpr hbl
  generalize hAe : (fun q : Nat => s.heap.size ≤ q) = A at hD hS hE hA hbA
  refine lv_aload_n hx hb dL_law_802 rfl (lv_at hl 3 rfl) ?_
  refine lv_aload_n hx hb dL_law_803 rfl (lv_at hl 4 rfl) ?_
  refine lv_iload hx hb dL_law_804 (lv_at hl 0 rfl) ?_
  refine lv_iconst (v := 1) hx hb dL_law_806 (by decide) ?_
  refine lv_iadd hx hb dL_law_807 ?_
  refine cst (v := 1) (by decide) ?_
  refine va_sld hx hb hX hbl hbA hS (vin0 (by decide)) dL_law_808 ?_
  refine cst (v := (nI dn)) ((congrArg xs (show (1 : Int32).toNatClampNeg = 1 by decide)).trans hq1) ?_
  refine lv_aload_n hx hb dL_law_809 rfl (lv_at hl 4 rfl) ?_
  refine lv_iload hx hb dL_law_810 (lv_at hl 0 rfl) ?_
  refine lv_iconst (v := 2) hx hb dL_law_812 (by decide) ?_
  refine lv_iadd hx hb dL_law_813 ?_
  refine cst (v := 2) (by decide) ?_
  refine va_sld hx hb hX hbl hbA hS (vin0 (by decide)) dL_law_814 ?_
  refine cst (v := (xs 2)) (congrArg xs (show (2 : Int32).toNatClampNeg = 2 by decide)) ?_
  have hPc := hP.sub (ws' := [(x0, .inr (7, [.ref (b 0), .ref (b 1), .ref (b 2), .ref (b 3), .ref (b 4), .ref (b 5), .ref (b 6), .ref (b 7), .ref (b 8), .ref (b 9), .int 1])), ((b 2), .inr (5, [.ref (f6 0), .ref (f6 1), .ref (f6 2), .ref (f6 3), .ref (f6 4), .ref (f6 5), .int 0, .int 0])), ((b 6), .inr (0, [.int 0, .ref (fT 1), .int 0, .ref (fT 3), .int 0, .ref (fT 5), .ref (fT 6), .ref (fT 7), .int 0, .ref (fT 9), .ref (fT 10), .ref (fT 11), .ref (fT 12), .ref (fT 13)]))]) [0, 1, 2] rfl
  have hKc := hK.sub (tys' := []) [] rfl
  have hDc := hD.sub (ws' := [(x0, .inr (7, [.ref (b 0), .ref (b 1), .ref (b 2), .ref (b 3), .ref (b 4), .ref (b 5), .ref (b 6), .ref (b 7), .ref (b 8), .ref (b 9), .int 1])), ((b 2), .inr (5, [.ref (f6 0), .ref (f6 1), .ref (f6 2), .ref (f6 3), .ref (f6 4), .ref (f6 5), .int 0, .int 0])), ((b 6), .inr (0, [.int 0, .ref (fT 1), .int 0, .ref (fT 3), .int 0, .ref (fT 5), .ref (fT 6), .ref (fT 7), .int 0, .ref (fT 9), .ref (fT 10), .ref (fT 11), .ref (fT 12), .ref (fT 13)]))]) [0, 1, 2] (by decide) rfl
  have hFc := va_free (wc := [(x0, .inr (7, [.ref (b 0), .ref (b 1), .ref (b 2), .ref (b 3), .ref (b 4), .ref (b 5), .ref (b 6), .ref (b 7), .ref (b 8), .ref (b 9), .int 1])), ((b 2), .inr (5, [.ref (f6 0), .ref (f6 1), .ref (f6 2), .ref (f6 3), .ref (f6 4), .ref (f6 5), .int 0, .int 0])), ((b 6), .inr (0, [.int 0, .ref (fT 1), .int 0, .ref (fT 3), .int 0, .ref (fT 5), .ref (fT 6), .ref (fT 7), .int 0, .ref (fT 9), .ref (fT 10), .ref (fT 11), .ref (fT 12), .ref (fT 13)]))]) hD hS hA [0, 1, 2] rfl
  refine va_calli (va_runV (As := [.int (nI dn), .int (xs 2)]) (rest := []) ⟨hx, hb, hml, hown, hts⟩ (c_8open_C l dC dI g H.size (x0) (b) (f4) (c4) (f5) (f7) (f6) (f2) (cK) (kf) (cZ) (fT) (fU) (sa) (sf) (sc) (spf) (sdf) (slf) (srf) (sga) (sgb) (rows) (dn) ((xs 2)) hdn hro0) (cwV 2 hts (gwV qw_510 qw_511 qw_512 qw_69 qw_509) rfl rfl rfl (by decide +kernel) ⟨Nat.le_of_ble_eq_true rfl, Nat.le_of_ble_eq_true rfl⟩) ⟨fun a U g9 mk q => ⟨q.1, q.2.1, q.2.2.1, va_K.moved (u := U) (U := U.calling g9 mk a) (Vm.Alike.refl U.vm) q.2.2.2.1, q.2.2.2.2.1, Ev.bl q.2.2.2.2.2⟩, va_recv hK hP (ci := 7) (q0 := 0) rfl rfl, fun U hU hW => ⟨rfl, by rw [hU], by rw [hU]; exact hPc, va_K.moved hW.alike hKc, hDc.weaken (fun _ _ _ _ => trivial), hE.go hS hFc hU hW⟩⟩ rfl rfl hl.1 rfl (lv_room (Nat.le_of_ble_eq_true rfl)) dL_law_815 ⟨Nat.le_of_ble_eq_true rfl, Nat.le_of_ble_eq_true rfl⟩) hS (fun q _ h => hFc q h) hFc (fun r2 u1 t H1 locs ht hvm h_u1 hB hz1 hk1 hS => ?_)
  obtain ⟨hP, hD⟩ := va_join (wr := [(m0, .inr (8, [.int 0, .int 0, .int 0, .int 0, .ref (a 4), .int 0, .int 0, .int 0, .int 0, .int 0, .int 0, .long 0, .int 0, .int 0, .int 0, .int 0, .int 0, .int 0, .ref (a 18), .ref (a 19), .ref (a 20), .ref (a 21), .ref (a 22), .ref (a 23), .ref (a 24), .ref (a 25), .ref (a 26), .ref (a 27), .ref (a 28), .ref (a 29), .ref (a 30), .ref (a 31), .ref (a 32), .ref (a 33), .ref (a 34), .ref (a 35), .long 0, .int 0, .ref (a 38), .ref (a 39), .int 0, .ref (a 41), .ref (a 42), .ref (a 43)])), ((a 21), .inl ((ca 21), 2, .inl (fun _ => 0))), ((a 20), .inl ((ca 20), 2, .inl (fun _ => 0)))]) (w1 := []) hP hD [0, 1, 2] [3, 4, 5] rfl rfl (by decide) (by decide) hk1 hFc va_P0 va_D0
  generalize H1 = H at hP hS ⊢
  have hP : va_P (dC, dI) vwCl [(m0, .inr (8, [.int 0, .int 0, .int 0, .int 0, .ref (a 4), .int 0, .int 0, .int 0, .int 0, .int 0, .int 0, .long 0, .int 0, .int 0, .int 0, .int 0, .int 0, .int 0, .ref (a 18), .ref (a 19), .ref (a 20), .ref (a 21), .ref (a 22), .ref (a 23), .ref (a 24), .ref (a 25), .ref (a 26), .ref (a 27), .ref (a 28), .ref (a 29), .ref (a 30), .ref (a 31), .ref (a 32), .ref (a 33), .ref (a 34), .ref (a 35), .long 0, .int 0, .ref (a 38), .ref (a 39), .int 0, .ref (a 41), .ref (a 42), .ref (a 43)])), ((a 21), .inl ((ca 21), 2, .inl (fun _ => 0))), ((a 20), .inl ((ca 20), 2, .inl (fun _ => 0)))] H := hP
  have hD : va_D A [(m0, .inr (8, [.int 0, .int 0, .int 0, .int 0, .ref (a 4), .int 0, .int 0, .int 0, .int 0, .int 0, .int 0, .long 0, .int 0, .int 0, .int 0, .int 0, .int 0, .int 0, .ref (a 18), .ref (a 19), .ref (a 20), .ref (a 21), .ref (a 22), .ref (a 23), .ref (a 24), .ref (a 25), .ref (a 26), .ref (a 27), .ref (a 28), .ref (a 29), .ref (a 30), .ref (a 31), .ref (a 32), .ref (a 33), .ref (a 34), .ref (a 35), .long 0, .int 0, .ref (a 38), .ref (a 39), .int 0, .ref (a 41), .ref (a 42), .ref (a 43)])), ((a 21), .inl ((ca 21), 2, .inl (fun _ => 0))), ((a 20), .inl ((ca 20), 2, .inl (fun _ => 0)))] := hD
  refine W.widen (k := 243) (n := 7586) (Nat.le_of_ble_eq_true rfl) (Nat.le_of_ble_eq_true rfl) ?_
  have h_u1 : r2 = (-1) := h_u1
  subst h_u1
  refine lv_aload_n hx hb dL_law_818 rfl (lv_at hl 2 rfl) ?_
  refine lv_aload_n hx hb dL_law_819 rfl (lv_at hl 4 rfl) ?_
  refine lv_iload hx hb dL_law_820 (lv_at hl 0 rfl) ?_
  refine lv_iconst (v := 1) hx hb dL_law_822 (by decide) ?_
  refine lv_iadd hx hb dL_law_823 ?_
  refine cst (v := 1) (by decide) ?_
  refine va_sld hx hb hX hbl hbA hS (vin0 (by decide)) dL_law_824 ?_
  refine cst (v := (nI dn)) ((congrArg xs (show (1 : Int32).toNatClampNeg = 1 by decide)).trans hq1) ?_
  refine lv_aload_n hx hb dL_law_825 rfl (lv_at hl 4 rfl) ?_
  refine lv_iload hx hb dL_law_826 (lv_at hl 0 rfl) ?_
  refine lv_iconst (v := 2) hx hb dL_law_828 (by decide) ?_
  refine lv_iadd hx hb dL_law_829 ?_
  refine cst (v := 2) (by decide) ?_
  refine va_sld hx hb hX hbl hbA hS (vin0 (by decide)) dL_law_830 ?_
  refine cst (v := (xs 2)) (congrArg xs (show (2 : Int32).toNatClampNeg = 2 by decide)) ?_
  have hPc := hP.sub (ws' := [(m0, .inr (8, [.int 0, .int 0, .int 0, .int 0, .ref (a 4), .int 0, .int 0, .int 0, .int 0, .int 0, .int 0, .long 0, .int 0, .int 0, .int 0, .int 0, .int 0, .int 0, .ref (a 18), .ref (a 19), .ref (a 20), .ref (a 21), .ref (a 22), .ref (a 23), .ref (a 24), .ref (a 25), .ref (a 26), .ref (a 27), .ref (a 28), .ref (a 29), .ref (a 30), .ref (a 31), .ref (a 32), .ref (a 33), .ref (a 34), .ref (a 35), .long 0, .int 0, .ref (a 38), .ref (a 39), .int 0, .ref (a 41), .ref (a 42), .ref (a 43)])), ((a 21), .inl ((ca 21), 2, .inl (fun _ => 0))), ((a 20), .inl ((ca 20), 2, .inl (fun _ => 0)))]) [0, 1, 2] rfl
  have hKc := hK.sub (tys' := [((ca 21), .int), ((ca 20), .int)]) [0, 1] rfl
  have hDc := hD.sub (ws' := [(m0, .inr (8, [.int 0, .int 0, .int 0, .int 0, .ref (a 4), .int 0, .int 0, .int 0, .int 0, .int 0, .int 0, .long 0, .int 0, .int 0, .int 0, .int 0, .int 0, .int 0, .ref (a 18), .ref (a 19), .ref (a 20), .ref (a 21), .ref (a 22), .ref (a 23), .ref (a 24), .ref (a 25), .ref (a 26), .ref (a 27), .ref (a 28), .ref (a 29), .ref (a 30), .ref (a 31), .ref (a 32), .ref (a 33), .ref (a 34), .ref (a 35), .long 0, .int 0, .ref (a 38), .ref (a 39), .int 0, .ref (a 41), .ref (a 42), .ref (a 43)])), ((a 21), .inl ((ca 21), 2, .inl (fun _ => 0))), ((a 20), .inl ((ca 20), 2, .inl (fun _ => 0)))]) [0, 1, 2] (by decide) rfl
  have hFc := va_free (wc := [(m0, .inr (8, [.int 0, .int 0, .int 0, .int 0, .ref (a 4), .int 0, .int 0, .int 0, .int 0, .int 0, .int 0, .long 0, .int 0, .int 0, .int 0, .int 0, .int 0, .int 0, .ref (a 18), .ref (a 19), .ref (a 20), .ref (a 21), .ref (a 22), .ref (a 23), .ref (a 24), .ref (a 25), .ref (a 26), .ref (a 27), .ref (a 28), .ref (a 29), .ref (a 30), .ref (a 31), .ref (a 32), .ref (a 33), .ref (a 34), .ref (a 35), .long 0, .int 0, .ref (a 38), .ref (a 39), .int 0, .ref (a 41), .ref (a 42), .ref (a 43)])), ((a 21), .inl ((ca 21), 2, .inl (fun _ => 0))), ((a 20), .inl ((ca 20), 2, .inl (fun _ => 0)))]) hD hS hA [0, 1, 2] rfl
  refine va_calli (va_runV (As := [.int (nI dn), .int (xs 2)]) (rest := [.int (-1)]) ⟨hx, hb, hml, hown, hts⟩ (c_9open_C l dC dI g H.size (m0) (a) (ca) (dn) ((xs 2)) hdn hro0) (cwV 2 hts (gwV qw_514 qw_515 qw_516 qw_23 qw_513) rfl rfl rfl (by decide +kernel) ⟨Nat.le_of_ble_eq_true rfl, Nat.le_of_ble_eq_true rfl⟩) ⟨fun a U g9 mk q => ⟨q.1, q.2.1, q.2.2.1, va_K.moved (u := U) (U := U.calling g9 mk a) (Vm.Alike.refl U.vm) q.2.2.2.1, q.2.2.2.2.1, Ev.bl q.2.2.2.2.2⟩, va_recv hK hP (ci := 8) (q0 := 0) rfl rfl, fun U hU hW => ⟨rfl, by rw [hU], by rw [hU]; exact hPc, va_K.moved hW.alike hKc, hDc.weaken (fun _ _ _ _ => trivial), hE.go hS hFc hU hW⟩⟩ rfl rfl hl.1 rfl (lv_room (Nat.le_of_ble_eq_true rfl)) dL_law_831 ⟨Nat.le_of_ble_eq_true rfl, Nat.le_of_ble_eq_true rfl⟩) hS (fun q _ h => hFc q h) hFc (fun r4 u3 t H1 locs ht hvm h_u3 hB hz1 hk1 hS => ?_)
  obtain ⟨hP, hD⟩ := va_join (wr := []) (w1 := []) hP hD [0, 1, 2] [] rfl rfl (by decide) (by decide) hk1 hFc va_P0 va_D0
  generalize H1 = H at hP hS ⊢
  have hP : va_P (dC, dI) vwCl [] H := hP
  have hD : va_D A [] := hD
  refine W.widen (k := 243) (n := 7586) (Nat.le_of_ble_eq_true rfl) (Nat.le_of_ble_eq_true rfl) ?_
  have h_u3 : r4 = (-1) := h_u3
  subst h_u3
  refine lv_icmp_eq (tgt := 1311) hx hb dL_law_834 (by decide) (fun c834_5 => ?_) (fun c834_5 => by exfalso; exact absurd c834_5 (by decide))
  refine lv_iinc (v := 6) (lv' := [(4, .int 6), (3, .ref o0), (2, .ref m0), (1, .ref x0), (0, .ref b0)]) hx hb dL_law_1311 hl (k := 0) rfl (by decide) (by decide) rfl (fun ls hl => ?_)
  refine lv_goto (tgt := 23) hx hb dL_law_1314 (by decide) ?_
  refine lv_iload hx hb dL_law_23 (lv_at hl 0 rfl) ?_
  refine lv_aload_n hx hb dL_law_25 rfl (lv_at hl 4 rfl) ?_
  refine va_slen hx hb hX hbl hbA hS dL_law_26 ?_
  refine cst (v := 6) (by decide) ?_
  refine lv_bipush (v := 6) hx hb dL_law_27 (by decide) ?_
  refine lv_isub hx hb dL_law_29 ?_
  refine cst (v := 0) (by decide) ?_
  refine lv_icmp_gt (tgt := 1317) hx hb dL_law_30 (by decide) (fun c30_6 => ?_) (fun c30_6 => by exfalso; exact absurd c30_6 (by decide))
  refine lv_iconst (v := 1) hx hb dL_law_1317 (by decide) ?_
  refine va_forget (fun q h => by have h8 := hS.2.2 q h; rw [← hAe] at h8; exact h8) ?_
  refine W.widen (k := 600002) (n := 7302232) (Nat.le_of_ble_eq_true rfl) (Nat.le_of_ble_eq_true rfl) ?_
  exact lw_ret hx hb hr hlocks dL_law_1318
set_option maxHeartbeats 4000000 in
set_option maxRecDepth 100000 in
theorem law_16A {p : Program} {e : Env} {s : State} {m : MethodId} {below : List Frame} {meth : Method} {c : Code} (l : Launch) {b0 : Nat} {xs : Nat → Int32} (C0 : lw_At p s m meth c b0 6 xs) (dC : Nat → ClassId) (dI : Nat → Nat → Nat) (g : Gv) (x0 : Nat) (b : Nat → Nat) (f4 : Nat → Nat) (c4 : ClassId) (f5 : Nat → Nat) (f7 : Nat → Nat) (f6 : Nat → Nat) (f2 : Nat → Nat) (cK : ClassId) (kf : Nat → Option Nat) (cZ : ClassId) (fT : Nat → Nat) (fU : Nat → Nat) (sa : Nat → Nat) (sf : Nat → Nat → Nat) (sc : Nat → Nat → ClassId) (spf : Nat → Nat → Int32) (sdf : Nat → Nat → Int32) (slf : Nat → Nat → Int32) (srf : Nat → Nat → Int32) (sga : Nat → Nat → Option Nat) (sgb : Nat → Nat → Option Nat) (rows : va_W) (m0 : Nat) (a : Nat → Nat) (ca : Nat → ClassId) (o0 : Nat) (dn : Nat) (rn : Nat) (hq1 : xs 1 = (nI dn)) (hq2 : xs 2 = (nI rn)) (hdn : dn ≤ 219145) (hrn : rn ≤ 15) {H : Heap} {locs : List Loc} {ls : Array Slot} (hK : va_K (dC, dI) vwCl [((ca 21), .int), ((ca 20), .int)] s) (hP : va_P (dC, dI) vwCl [(x0, .inr (7, [.ref (b 0), .ref (b 1), .ref (b 2), .ref (b 3), .ref (b 4), .ref (b 5), .ref (b 6), .ref (b 7), .ref (b 8), .ref (b 9), .int 1])), ((b 2), .inr (5, [.ref (f6 0), .ref (f6 1), .ref (f6 2), .ref (f6 3), .ref (f6 4), .ref (f6 5), .int 0, .int 0])), ((b 6), .inr (0, [.int 0, .ref (fT 1), .int 0, .ref (fT 3), .int 0, .ref (fT 5), .ref (fT 6), .ref (fT 7), .int 0, .ref (fT 9), .ref (fT 10), .ref (fT 11), .ref (fT 12), .ref (fT 13)])), (m0, .inr (8, [.int 0, .int 0, .int 0, .int 0, .ref (a 4), .int 0, .int 0, .int 0, .int 0, .int 0, .int 0, .long 0, .int 0, .int 0, .int 0, .int 0, .int 0, .int 0, .ref (a 18), .ref (a 19), .ref (a 20), .ref (a 21), .ref (a 22), .ref (a 23), .ref (a 24), .ref (a 25), .ref (a 26), .ref (a 27), .ref (a 28), .ref (a 29), .ref (a 30), .ref (a 31), .ref (a 32), .ref (a 33), .ref (a 34), .ref (a 35), .long 0, .int 0, .ref (a 38), .ref (a 39), .int 0, .ref (a 41), .ref (a 42), .ref (a 43)])), ((a 21), .inl ((ca 21), 2, .inl (fun _ => 0))), ((a 20), .inl ((ca 20), 2, .inl (fun _ => 0)))] H) (hD : va_D (fun q : Nat => s.heap.size ≤ q) [(x0, .inr (7, [.ref (b 0), .ref (b 1), .ref (b 2), .ref (b 3), .ref (b 4), .ref (b 5), .ref (b 6), .ref (b 7), .ref (b 8), .ref (b 9), .int 1])), ((b 2), .inr (5, [.ref (f6 0), .ref (f6 1), .ref (f6 2), .ref (f6 3), .ref (f6 4), .ref (f6 5), .int 0, .int 0])), ((b 6), .inr (0, [.int 0, .ref (fT 1), .int 0, .ref (fT 3), .int 0, .ref (fT 5), .ref (fT 6), .ref (fT 7), .int 0, .ref (fT 9), .ref (fT 10), .ref (fT 11), .ref (fT 12), .ref (fT 13)])), (m0, .inr (8, [.int 0, .int 0, .int 0, .int 0, .ref (a 4), .int 0, .int 0, .int 0, .int 0, .int 0, .int 0, .long 0, .int 0, .int 0, .int 0, .int 0, .int 0, .int 0, .ref (a 18), .ref (a 19), .ref (a 20), .ref (a 21), .ref (a 22), .ref (a 23), .ref (a 24), .ref (a 25), .ref (a 26), .ref (a 27), .ref (a 28), .ref (a 29), .ref (a 30), .ref (a 31), .ref (a 32), .ref (a 33), .ref (a 34), .ref (a 35), .long 0, .int 0, .ref (a 38), .ref (a 39), .int 0, .ref (a 41), .ref (a 42), .ref (a 43)])), ((a 21), .inl ((ca 21), 2, .inl (fun _ => 0))), ((a 20), .inl ((ca 20), 2, .inl (fun _ => 0)))]) (hS : va_S (fun q : Nat => s.heap.size ≤ q) s.heap H locs) (hE : Ev g (fun q : Nat => s.heap.size ≤ q) s) (hl : lv_has ls 7 [(4, .int 0), (3, .ref o0), (2, .ref m0), (1, .ref x0), (0, .ref b0)]) : W p l e room_1 s m #[Value.ref b0] below meth c H locs 243 7586 (lw_Z below #[Value.ref b0] s) (F0 m 839 ls []) := by
  obtain ⟨hx, hb, hr, hml, hown, hts0, hX, hbl, hlocks, hgv⟩ := id C0
  have hts := fun (w : Cond) (h : w ∈ TBL) => hts0 w (TBin w h)
  have hown : s.vm.findClass RL = some m.cls := hown
  have hN := hE.1
  have hA : ∀ q : Nat, s.heap.size ≤ q → (fun q : Nat => s.heap.size ≤ q) q := fun _ h => h
  have hbA : ¬ (fun q : Nat => s.heap.size ≤ q) b0 := Nat.not_le.mpr hbl
  generalize hAe : (fun q : Nat => s.heap.size ≤ q) = A at hD hS hE hA hbA
  refine lv_aload_n hx hb dL_law_839 rfl (lv_at hl 3 rfl) ?_
  refine lv_aload_n hx hb dL_law_840 rfl (lv_at hl 4 rfl) ?_
  refine lv_iload hx hb dL_law_841 (lv_at hl 0 rfl) ?_
  refine lv_iconst (v := 1) hx hb dL_law_843 (by decide) ?_
  refine lv_iadd hx hb dL_law_844 ?_
  refine cst (v := 1) (by decide) ?_
  refine va_sld hx hb hX hbl hbA hS (vin0 (by decide)) dL_law_845 ?_
  refine cst (v := (nI dn)) ((congrArg xs (show (1 : Int32).toNatClampNeg = 1 by decide)).trans hq1) ?_
  refine lv_aload_n hx hb dL_law_846 rfl (lv_at hl 4 rfl) ?_
  refine lv_iload hx hb dL_law_847 (lv_at hl 0 rfl) ?_
  refine lv_iconst (v := 2) hx hb dL_law_849 (by decide) ?_
  refine lv_iadd hx hb dL_law_850 ?_
  refine cst (v := 2) (by decide) ?_
  refine va_sld hx hb hX hbl hbA hS (vin0 (by decide)) dL_law_851 ?_
  refine cst (v := (nI rn)) ((congrArg xs (show (2 : Int32).toNatClampNeg = 2 by decide)).trans hq2) ?_
  have hPc := hP.sub (ws' := [(x0, .inr (7, [.ref (b 0), .ref (b 1), .ref (b 2), .ref (b 3), .ref (b 4), .ref (b 5), .ref (b 6), .ref (b 7), .ref (b 8), .ref (b 9), .int 1])), ((b 2), .inr (5, [.ref (f6 0), .ref (f6 1), .ref (f6 2), .ref (f6 3), .ref (f6 4), .ref (f6 5), .int 0, .int 0])), ((b 6), .inr (0, [.int 0, .ref (fT 1), .int 0, .ref (fT 3), .int 0, .ref (fT 5), .ref (fT 6), .ref (fT 7), .int 0, .ref (fT 9), .ref (fT 10), .ref (fT 11), .ref (fT 12), .ref (fT 13)]))]) [0, 1, 2] rfl
  have hKc := hK.sub (tys' := []) [] rfl
  have hDc := hD.sub (ws' := [(x0, .inr (7, [.ref (b 0), .ref (b 1), .ref (b 2), .ref (b 3), .ref (b 4), .ref (b 5), .ref (b 6), .ref (b 7), .ref (b 8), .ref (b 9), .int 1])), ((b 2), .inr (5, [.ref (f6 0), .ref (f6 1), .ref (f6 2), .ref (f6 3), .ref (f6 4), .ref (f6 5), .int 0, .int 0])), ((b 6), .inr (0, [.int 0, .ref (fT 1), .int 0, .ref (fT 3), .int 0, .ref (fT 5), .ref (fT 6), .ref (fT 7), .int 0, .ref (fT 9), .ref (fT 10), .ref (fT 11), .ref (fT 12), .ref (fT 13)]))]) [0, 1, 2] (by decide) rfl
  have hFc := va_free (wc := [(x0, .inr (7, [.ref (b 0), .ref (b 1), .ref (b 2), .ref (b 3), .ref (b 4), .ref (b 5), .ref (b 6), .ref (b 7), .ref (b 8), .ref (b 9), .int 1])), ((b 2), .inr (5, [.ref (f6 0), .ref (f6 1), .ref (f6 2), .ref (f6 3), .ref (f6 4), .ref (f6 5), .int 0, .int 0])), ((b 6), .inr (0, [.int 0, .ref (fT 1), .int 0, .ref (fT 3), .int 0, .ref (fT 5), .ref (fT 6), .ref (fT 7), .int 0, .ref (fT 9), .ref (fT 10), .ref (fT 11), .ref (fT 12), .ref (fT 13)]))]) hD hS hA [0, 1, 2] rfl
  refine va_calli (va_runV (As := [.int (nI dn), .int (nI rn)]) (rest := []) ⟨hx, hb, hml, hown, hts⟩ (c_8next_A l dC dI g H.size (x0) (b) (f4) (c4) (f5) (f7) (f6) (f2) (cK) (kf) (cZ) (fT) (fU) (sa) (sf) (sc) (spf) (sdf) (slf) (srf) (sga) (sgb) (rows) (dn) (rn) hdn hrn) (cwV 2 hts (gwV qw_518 qw_519 qw_520 qw_69 qw_517) rfl rfl rfl (by decide +kernel) ⟨Nat.le_of_ble_eq_true rfl, Nat.le_of_ble_eq_true rfl⟩) ⟨fun a U g9 mk q => ⟨q.1, q.2.1, q.2.2.1, va_K.moved (u := U) (U := U.calling g9 mk a) (Vm.Alike.refl U.vm) q.2.2.2.1, q.2.2.2.2.1, Ev.bl q.2.2.2.2.2⟩, va_recv hK hP (ci := 7) (q0 := 0) rfl rfl, fun U hU hW => ⟨rfl, by rw [hU], by rw [hU]; exact hPc, va_K.moved hW.alike hKc, hDc.weaken (fun _ _ _ _ => trivial), hE.go hS hFc hU hW⟩⟩ rfl rfl hl.1 rfl (lv_room (Nat.le_of_ble_eq_true rfl)) dL_law_852 ⟨Nat.le_of_ble_eq_true rfl, Nat.le_of_ble_eq_true rfl⟩) hS (fun q _ h => hFc q h) hFc (fun r2 u1 t H1 locs ht hvm h_u1 hB hz1 hk1 hS => ?_)
  obtain ⟨hP, hD⟩ := va_join (wr := [(m0, .inr (8, [.int 0, .int 0, .int 0, .int 0, .ref (a 4), .int 0, .int 0, .int 0, .int 0, .int 0, .int 0, .long 0, .int 0, .int 0, .int 0, .int 0, .int 0, .int 0, .ref (a 18), .ref (a 19), .ref (a 20), .ref (a 21), .ref (a 22), .ref (a 23), .ref (a 24), .ref (a 25), .ref (a 26), .ref (a 27), .ref (a 28), .ref (a 29), .ref (a 30), .ref (a 31), .ref (a 32), .ref (a 33), .ref (a 34), .ref (a 35), .long 0, .int 0, .ref (a 38), .ref (a 39), .int 0, .ref (a 41), .ref (a 42), .ref (a 43)])), ((a 21), .inl ((ca 21), 2, .inl (fun _ => 0))), ((a 20), .inl ((ca 20), 2, .inl (fun _ => 0)))]) (w1 := []) hP hD [0, 1, 2] [3, 4, 5] rfl rfl (by decide) (by decide) hk1 hFc va_P0 va_D0
  generalize H1 = H at hP hS ⊢
  have hP : va_P (dC, dI) vwCl [(m0, .inr (8, [.int 0, .int 0, .int 0, .int 0, .ref (a 4), .int 0, .int 0, .int 0, .int 0, .int 0, .int 0, .long 0, .int 0, .int 0, .int 0, .int 0, .int 0, .int 0, .ref (a 18), .ref (a 19), .ref (a 20), .ref (a 21), .ref (a 22), .ref (a 23), .ref (a 24), .ref (a 25), .ref (a 26), .ref (a 27), .ref (a 28), .ref (a 29), .ref (a 30), .ref (a 31), .ref (a 32), .ref (a 33), .ref (a 34), .ref (a 35), .long 0, .int 0, .ref (a 38), .ref (a 39), .int 0, .ref (a 41), .ref (a 42), .ref (a 43)])), ((a 21), .inl ((ca 21), 2, .inl (fun _ => 0))), ((a 20), .inl ((ca 20), 2, .inl (fun _ => 0)))] H := hP
  have hD : va_D A [(m0, .inr (8, [.int 0, .int 0, .int 0, .int 0, .ref (a 4), .int 0, .int 0, .int 0, .int 0, .int 0, .int 0, .long 0, .int 0, .int 0, .int 0, .int 0, .int 0, .int 0, .ref (a 18), .ref (a 19), .ref (a 20), .ref (a 21), .ref (a 22), .ref (a 23), .ref (a 24), .ref (a 25), .ref (a 26), .ref (a 27), .ref (a 28), .ref (a 29), .ref (a 30), .ref (a 31), .ref (a 32), .ref (a 33), .ref (a 34), .ref (a 35), .long 0, .int 0, .ref (a 38), .ref (a 39), .int 0, .ref (a 41), .ref (a 42), .ref (a 43)])), ((a 21), .inl ((ca 21), 2, .inl (fun _ => 0))), ((a 20), .inl ((ca 20), 2, .inl (fun _ => 0)))] := hD
  refine W.widen (k := 243) (n := 7586) (Nat.le_of_ble_eq_true rfl) (Nat.le_of_ble_eq_true rfl) ?_
  have h_u1 : r2 = (-1) := h_u1
  subst h_u1
  refine lv_aload_n hx hb dL_law_855 rfl (lv_at hl 2 rfl) ?_
  refine lv_aload_n hx hb dL_law_856 rfl (lv_at hl 4 rfl) ?_
  refine lv_iload hx hb dL_law_857 (lv_at hl 0 rfl) ?_
  refine lv_iconst (v := 1) hx hb dL_law_859 (by decide) ?_
  refine lv_iadd hx hb dL_law_860 ?_
  refine cst (v := 1) (by decide) ?_
  refine va_sld hx hb hX hbl hbA hS (vin0 (by decide)) dL_law_861 ?_
  refine cst (v := (nI dn)) ((congrArg xs (show (1 : Int32).toNatClampNeg = 1 by decide)).trans hq1) ?_
  refine lv_aload_n hx hb dL_law_862 rfl (lv_at hl 4 rfl) ?_
  refine lv_iload hx hb dL_law_863 (lv_at hl 0 rfl) ?_
  refine lv_iconst (v := 2) hx hb dL_law_865 (by decide) ?_
  refine lv_iadd hx hb dL_law_866 ?_
  refine cst (v := 2) (by decide) ?_
  refine va_sld hx hb hX hbl hbA hS (vin0 (by decide)) dL_law_867 ?_
  refine cst (v := (nI rn)) ((congrArg xs (show (2 : Int32).toNatClampNeg = 2 by decide)).trans hq2) ?_
  have hPc := hP.sub (ws' := [(m0, .inr (8, [.int 0, .int 0, .int 0, .int 0, .ref (a 4), .int 0, .int 0, .int 0, .int 0, .int 0, .int 0, .long 0, .int 0, .int 0, .int 0, .int 0, .int 0, .int 0, .ref (a 18), .ref (a 19), .ref (a 20), .ref (a 21), .ref (a 22), .ref (a 23), .ref (a 24), .ref (a 25), .ref (a 26), .ref (a 27), .ref (a 28), .ref (a 29), .ref (a 30), .ref (a 31), .ref (a 32), .ref (a 33), .ref (a 34), .ref (a 35), .long 0, .int 0, .ref (a 38), .ref (a 39), .int 0, .ref (a 41), .ref (a 42), .ref (a 43)])), ((a 21), .inl ((ca 21), 2, .inl (fun _ => 0))), ((a 20), .inl ((ca 20), 2, .inl (fun _ => 0)))]) [0, 1, 2] rfl
  have hKc := hK.sub (tys' := [((ca 21), .int), ((ca 20), .int)]) [0, 1] rfl
  have hDc := hD.sub (ws' := [(m0, .inr (8, [.int 0, .int 0, .int 0, .int 0, .ref (a 4), .int 0, .int 0, .int 0, .int 0, .int 0, .int 0, .long 0, .int 0, .int 0, .int 0, .int 0, .int 0, .int 0, .ref (a 18), .ref (a 19), .ref (a 20), .ref (a 21), .ref (a 22), .ref (a 23), .ref (a 24), .ref (a 25), .ref (a 26), .ref (a 27), .ref (a 28), .ref (a 29), .ref (a 30), .ref (a 31), .ref (a 32), .ref (a 33), .ref (a 34), .ref (a 35), .long 0, .int 0, .ref (a 38), .ref (a 39), .int 0, .ref (a 41), .ref (a 42), .ref (a 43)])), ((a 21), .inl ((ca 21), 2, .inl (fun _ => 0))), ((a 20), .inl ((ca 20), 2, .inl (fun _ => 0)))]) [0, 1, 2] (by decide) rfl
  have hFc := va_free (wc := [(m0, .inr (8, [.int 0, .int 0, .int 0, .int 0, .ref (a 4), .int 0, .int 0, .int 0, .int 0, .int 0, .int 0, .long 0, .int 0, .int 0, .int 0, .int 0, .int 0, .int 0, .ref (a 18), .ref (a 19), .ref (a 20), .ref (a 21), .ref (a 22), .ref (a 23), .ref (a 24), .ref (a 25), .ref (a 26), .ref (a 27), .ref (a 28), .ref (a 29), .ref (a 30), .ref (a 31), .ref (a 32), .ref (a 33), .ref (a 34), .ref (a 35), .long 0, .int 0, .ref (a 38), .ref (a 39), .int 0, .ref (a 41), .ref (a 42), .ref (a 43)])), ((a 21), .inl ((ca 21), 2, .inl (fun _ => 0))), ((a 20), .inl ((ca 20), 2, .inl (fun _ => 0)))]) hD hS hA [0, 1, 2] rfl
  refine va_calli (va_runV (As := [.int (nI dn), .int (nI rn)]) (rest := [.int (-1)]) ⟨hx, hb, hml, hown, hts⟩ (c_9next_A l dC dI g H.size (m0) (a) (ca) (dn) (rn) hdn hrn) (cwV 2 hts (gwV qw_522 qw_523 qw_524 qw_23 qw_521) rfl rfl rfl (by decide +kernel) ⟨Nat.le_of_ble_eq_true rfl, Nat.le_of_ble_eq_true rfl⟩) ⟨fun a U g9 mk q => ⟨q.1, q.2.1, q.2.2.1, va_K.moved (u := U) (U := U.calling g9 mk a) (Vm.Alike.refl U.vm) q.2.2.2.1, q.2.2.2.2.1, Ev.bl q.2.2.2.2.2⟩, va_recv hK hP (ci := 8) (q0 := 0) rfl rfl, fun U hU hW => ⟨rfl, by rw [hU], by rw [hU]; exact hPc, va_K.moved hW.alike hKc, hDc.weaken (fun _ _ _ _ => trivial), hE.go hS hFc hU hW⟩⟩ rfl rfl hl.1 rfl (lv_room (Nat.le_of_ble_eq_true rfl)) dL_law_868 ⟨Nat.le_of_ble_eq_true rfl, Nat.le_of_ble_eq_true rfl⟩) hS (fun q _ h => hFc q h) hFc (fun r4 u3 t H1 locs ht hvm h_u3 hB hz1 hk1 hS => ?_)
  obtain ⟨hP, hD⟩ := va_join (wr := []) (w1 := []) hP hD [0, 1, 2] [] rfl rfl (by decide) (by decide) hk1 hFc va_P0 va_D0
  generalize H1 = H at hP hS ⊢
  have hP : va_P (dC, dI) vwCl [] H := hP
  have hD : va_D A [] := hD
  refine W.widen (k := 243) (n := 7586) (Nat.le_of_ble_eq_true rfl) (Nat.le_of_ble_eq_true rfl) ?_
  have h_u3 : r4 = (-1) := h_u3
  subst h_u3
  refine lv_icmp_eq (tgt := 1311) hx hb dL_law_871 (by decide) (fun c871_5 => ?_) (fun c871_5 => by exfalso; exact absurd c871_5 (by decide))
  refine lv_iinc (v := 6) (lv' := [(4, .int 6), (3, .ref o0), (2, .ref m0), (1, .ref x0), (0, .ref b0)]) hx hb dL_law_1311 hl (k := 0) rfl (by decide) (by decide) rfl (fun ls hl => ?_)
  refine lv_goto (tgt := 23) hx hb dL_law_1314 (by decide) ?_
  refine lv_iload hx hb dL_law_23 (lv_at hl 0 rfl) ?_
  refine lv_aload_n hx hb dL_law_25 rfl (lv_at hl 4 rfl) ?_
  refine va_slen hx hb hX hbl hbA hS dL_law_26 ?_
  refine cst (v := 6) (by decide) ?_
  refine lv_bipush (v := 6) hx hb dL_law_27 (by decide) ?_
  refine lv_isub hx hb dL_law_29 ?_
  refine cst (v := 0) (by decide) ?_
  refine lv_icmp_gt (tgt := 1317) hx hb dL_law_30 (by decide) (fun c30_6 => ?_) (fun c30_6 => by exfalso; exact absurd c30_6 (by decide))
  refine lv_iconst (v := 1) hx hb dL_law_1317 (by decide) ?_
  refine va_forget (fun q h => by have h8 := hS.2.2 q h; rw [← hAe] at h8; exact h8) ?_
  refine W.widen (k := 600002) (n := 7302232) (Nat.le_of_ble_eq_true rfl) (Nat.le_of_ble_eq_true rfl) ?_
  exact lw_ret hx hb hr hlocks dL_law_1318
set_option maxHeartbeats 4000000 in
set_option maxRecDepth 100000 in
theorem law_16M {p : Program} {e : Env} {s : State} {m : MethodId} {below : List Frame} {meth : Method} {c : Code} (l : Launch) {b0 : Nat} {xs : Nat → Int32} (C0 : lw_At p s m meth c b0 6 xs) (dC : Nat → ClassId) (dI : Nat → Nat → Nat) (g : Gv) (x0 : Nat) (b : Nat → Nat) (f4 : Nat → Nat) (c4 : ClassId) (f5 : Nat → Nat) (f7 : Nat → Nat) (f6 : Nat → Nat) (f2 : Nat → Nat) (cK : ClassId) (kf : Nat → Option Nat) (cZ : ClassId) (fT : Nat → Nat) (fU : Nat → Nat) (sa : Nat → Nat) (sf : Nat → Nat → Nat) (sc : Nat → Nat → ClassId) (spf : Nat → Nat → Int32) (sdf : Nat → Nat → Int32) (slf : Nat → Nat → Int32) (srf : Nat → Nat → Int32) (sga : Nat → Nat → Option Nat) (sgb : Nat → Nat → Option Nat) (rows : va_W) (m0 : Nat) (a : Nat → Nat) (ca : Nat → ClassId) (o0 : Nat) (rn : Nat) (hq1 : xs 1 = (-1)) (hq2 : xs 2 = (nI rn)) (hrn : rn ≤ 15) {H : Heap} {locs : List Loc} {ls : Array Slot} (hK : va_K (dC, dI) vwCl [((ca 21), .int), ((ca 20), .int)] s) (hP : va_P (dC, dI) vwCl [(x0, .inr (7, [.ref (b 0), .ref (b 1), .ref (b 2), .ref (b 3), .ref (b 4), .ref (b 5), .ref (b 6), .ref (b 7), .ref (b 8), .ref (b 9), .int 1])), ((b 2), .inr (5, [.ref (f6 0), .ref (f6 1), .ref (f6 2), .ref (f6 3), .ref (f6 4), .ref (f6 5), .int 0, .int 0])), ((b 6), .inr (0, [.int 0, .ref (fT 1), .int 0, .ref (fT 3), .int 0, .ref (fT 5), .ref (fT 6), .ref (fT 7), .int 0, .ref (fT 9), .ref (fT 10), .ref (fT 11), .ref (fT 12), .ref (fT 13)])), (m0, .inr (8, [.int 0, .int 0, .int 0, .int 0, .ref (a 4), .int 0, .int 0, .int 0, .int 0, .int 0, .int 0, .long 0, .int 0, .int 0, .int 0, .int 0, .int 0, .int 0, .ref (a 18), .ref (a 19), .ref (a 20), .ref (a 21), .ref (a 22), .ref (a 23), .ref (a 24), .ref (a 25), .ref (a 26), .ref (a 27), .ref (a 28), .ref (a 29), .ref (a 30), .ref (a 31), .ref (a 32), .ref (a 33), .ref (a 34), .ref (a 35), .long 0, .int 0, .ref (a 38), .ref (a 39), .int 0, .ref (a 41), .ref (a 42), .ref (a 43)])), ((a 21), .inl ((ca 21), 2, .inl (fun _ => 0))), ((a 20), .inl ((ca 20), 2, .inl (fun _ => 0)))] H) (hD : va_D (fun q : Nat => s.heap.size ≤ q) [(x0, .inr (7, [.ref (b 0), .ref (b 1), .ref (b 2), .ref (b 3), .ref (b 4), .ref (b 5), .ref (b 6), .ref (b 7), .ref (b 8), .ref (b 9), .int 1])), ((b 2), .inr (5, [.ref (f6 0), .ref (f6 1), .ref (f6 2), .ref (f6 3), .ref (f6 4), .ref (f6 5), .int 0, .int 0])), ((b 6), .inr (0, [.int 0, .ref (fT 1), .int 0, .ref (fT 3), .int 0, .ref (fT 5), .ref (fT 6), .ref (fT 7), .int 0, .ref (fT 9), .ref (fT 10), .ref (fT 11), .ref (fT 12), .ref (fT 13)])), (m0, .inr (8, [.int 0, .int 0, .int 0, .int 0, .ref (a 4), .int 0, .int 0, .int 0, .int 0, .int 0, .int 0, .long 0, .int 0, .int 0, .int 0, .int 0, .int 0, .int 0, .ref (a 18), .ref (a 19), .ref (a 20), .ref (a 21), .ref (a 22), .ref (a 23), .ref (a 24), .ref (a 25), .ref (a 26), .ref (a 27), .ref (a 28), .ref (a 29), .ref (a 30), .ref (a 31), .ref (a 32), .ref (a 33), .ref (a 34), .ref (a 35), .long 0, .int 0, .ref (a 38), .ref (a 39), .int 0, .ref (a 41), .ref (a 42), .ref (a 43)])), ((a 21), .inl ((ca 21), 2, .inl (fun _ => 0))), ((a 20), .inl ((ca 20), 2, .inl (fun _ => 0)))]) (hS : va_S (fun q : Nat => s.heap.size ≤ q) s.heap H locs) (hE : Ev g (fun q : Nat => s.heap.size ≤ q) s) (hl : lv_has ls 7 [(4, .int 0), (3, .ref o0), (2, .ref m0), (1, .ref x0), (0, .ref b0)]) : W p l e room_1 s m #[Value.ref b0] below meth c H locs 243 7586 (lw_Z below #[Value.ref b0] s) (F0 m 839 ls []) := by
  obtain ⟨hx, hb, hr, hml, hown, hts0, hX, hbl, hlocks, hgv⟩ := id C0
  have hts := fun (w : Cond) (h : w ∈ TBL) => hts0 w (TBin w h)
  have hown : s.vm.findClass RL = some m.cls := hown
  have hN := hE.1
  have hA : ∀ q : Nat, s.heap.size ≤ q → (fun q : Nat => s.heap.size ≤ q) q := fun _ h => h
  have hbA : ¬ (fun q : Nat => s.heap.size ≤ q) b0 := Nat.not_le.mpr hbl
  generalize hAe : (fun q : Nat => s.heap.size ≤ q) = A at hD hS hE hA hbA
  refine lv_aload_n hx hb dL_law_839 rfl (lv_at hl 3 rfl) ?_
  refine lv_aload_n hx hb dL_law_840 rfl (lv_at hl 4 rfl) ?_
  refine lv_iload hx hb dL_law_841 (lv_at hl 0 rfl) ?_
  refine lv_iconst (v := 1) hx hb dL_law_843 (by decide) ?_
  refine lv_iadd hx hb dL_law_844 ?_
  refine cst (v := 1) (by decide) ?_
  refine va_sld hx hb hX hbl hbA hS (vin0 (by decide)) dL_law_845 ?_
  refine cst (v := (-1)) ((congrArg xs (show (1 : Int32).toNatClampNeg = 1 by decide)).trans hq1) ?_
  refine lv_aload_n hx hb dL_law_846 rfl (lv_at hl 4 rfl) ?_
  refine lv_iload hx hb dL_law_847 (lv_at hl 0 rfl) ?_
  refine lv_iconst (v := 2) hx hb dL_law_849 (by decide) ?_
  refine lv_iadd hx hb dL_law_850 ?_
  refine cst (v := 2) (by decide) ?_
  refine va_sld hx hb hX hbl hbA hS (vin0 (by decide)) dL_law_851 ?_
  refine cst (v := (nI rn)) ((congrArg xs (show (2 : Int32).toNatClampNeg = 2 by decide)).trans hq2) ?_
  have hPc := hP.sub (ws' := [(x0, .inr (7, [.ref (b 0), .ref (b 1), .ref (b 2), .ref (b 3), .ref (b 4), .ref (b 5), .ref (b 6), .ref (b 7), .ref (b 8), .ref (b 9), .int 1])), ((b 2), .inr (5, [.ref (f6 0), .ref (f6 1), .ref (f6 2), .ref (f6 3), .ref (f6 4), .ref (f6 5), .int 0, .int 0])), ((b 6), .inr (0, [.int 0, .ref (fT 1), .int 0, .ref (fT 3), .int 0, .ref (fT 5), .ref (fT 6), .ref (fT 7), .int 0, .ref (fT 9), .ref (fT 10), .ref (fT 11), .ref (fT 12), .ref (fT 13)]))]) [0, 1, 2] rfl
  have hKc := hK.sub (tys' := []) [] rfl
  have hDc := hD.sub (ws' := [(x0, .inr (7, [.ref (b 0), .ref (b 1), .ref (b 2), .ref (b 3), .ref (b 4), .ref (b 5), .ref (b 6), .ref (b 7), .ref (b 8), .ref (b 9), .int 1])), ((b 2), .inr (5, [.ref (f6 0), .ref (f6 1), .ref (f6 2), .ref (f6 3), .ref (f6 4), .ref (f6 5), .int 0, .int 0])), ((b 6), .inr (0, [.int 0, .ref (fT 1), .int 0, .ref (fT 3), .int 0, .ref (fT 5), .ref (fT 6), .ref (fT 7), .int 0, .ref (fT 9), .ref (fT 10), .ref (fT 11), .ref (fT 12), .ref (fT 13)]))]) [0, 1, 2] (by decide) rfl
  have hFc := va_free (wc := [(x0, .inr (7, [.ref (b 0), .ref (b 1), .ref (b 2), .ref (b 3), .ref (b 4), .ref (b 5), .ref (b 6), .ref (b 7), .ref (b 8), .ref (b 9), .int 1])), ((b 2), .inr (5, [.ref (f6 0), .ref (f6 1), .ref (f6 2), .ref (f6 3), .ref (f6 4), .ref (f6 5), .int 0, .int 0])), ((b 6), .inr (0, [.int 0, .ref (fT 1), .int 0, .ref (fT 3), .int 0, .ref (fT 5), .ref (fT 6), .ref (fT 7), .int 0, .ref (fT 9), .ref (fT 10), .ref (fT 11), .ref (fT 12), .ref (fT 13)]))]) hD hS hA [0, 1, 2] rfl
  refine va_calli (va_runV (As := [.int (-1), .int (nI rn)]) (rest := []) ⟨hx, hb, hml, hown, hts⟩ (c_8next_M l dC dI g H.size (x0) (b) (f4) (c4) (f5) (f7) (f6) (f2) (cK) (kf) (cZ) (fT) (fU) (sa) (sf) (sc) (spf) (sdf) (slf) (srf) (sga) (sgb) (rows) (rn) hrn) (cwV 2 hts (gwV qw_518 qw_519 qw_520 qw_69 qw_517) rfl rfl rfl (by decide +kernel) ⟨Nat.le_of_ble_eq_true rfl, Nat.le_of_ble_eq_true rfl⟩) ⟨fun a U g9 mk q => ⟨q.1, q.2.1, q.2.2.1, va_K.moved (u := U) (U := U.calling g9 mk a) (Vm.Alike.refl U.vm) q.2.2.2.1, q.2.2.2.2.1, Ev.bl q.2.2.2.2.2⟩, va_recv hK hP (ci := 7) (q0 := 0) rfl rfl, fun U hU hW => ⟨rfl, by rw [hU], by rw [hU]; exact hPc, va_K.moved hW.alike hKc, hDc.weaken (fun _ _ _ _ => trivial), hE.go hS hFc hU hW⟩⟩ rfl rfl hl.1 rfl (lv_room (Nat.le_of_ble_eq_true rfl)) dL_law_852 ⟨Nat.le_of_ble_eq_true rfl, Nat.le_of_ble_eq_true rfl⟩) hS (fun q _ h => hFc q h) hFc (fun r2 u1 t H1 locs ht hvm h_u1 hB hz1 hk1 hS => ?_)
  obtain ⟨hP, hD⟩ := va_join (wr := [(m0, .inr (8, [.int 0, .int 0, .int 0, .int 0, .ref (a 4), .int 0, .int 0, .int 0, .int 0, .int 0, .int 0, .long 0, .int 0, .int 0, .int 0, .int 0, .int 0, .int 0, .ref (a 18), .ref (a 19), .ref (a 20), .ref (a 21), .ref (a 22), .ref (a 23), .ref (a 24), .ref (a 25), .ref (a 26), .ref (a 27), .ref (a 28), .ref (a 29), .ref (a 30), .ref (a 31), .ref (a 32), .ref (a 33), .ref (a 34), .ref (a 35), .long 0, .int 0, .ref (a 38), .ref (a 39), .int 0, .ref (a 41), .ref (a 42), .ref (a 43)])), ((a 21), .inl ((ca 21), 2, .inl (fun _ => 0))), ((a 20), .inl ((ca 20), 2, .inl (fun _ => 0)))]) (w1 := []) hP hD [0, 1, 2] [3, 4, 5] rfl rfl (by decide) (by decide) hk1 hFc va_P0 va_D0
  generalize H1 = H at hP hS ⊢
  have hP : va_P (dC, dI) vwCl [(m0, .inr (8, [.int 0, .int 0, .int 0, .int 0, .ref (a 4), .int 0, .int 0, .int 0, .int 0, .int 0, .int 0, .long 0, .int 0, .int 0, .int 0, .int 0, .int 0, .int 0, .ref (a 18), .ref (a 19), .ref (a 20), .ref (a 21), .ref (a 22), .ref (a 23), .ref (a 24), .ref (a 25), .ref (a 26), .ref (a 27), .ref (a 28), .ref (a 29), .ref (a 30), .ref (a 31), .ref (a 32), .ref (a 33), .ref (a 34), .ref (a 35), .long 0, .int 0, .ref (a 38), .ref (a 39), .int 0, .ref (a 41), .ref (a 42), .ref (a 43)])), ((a 21), .inl ((ca 21), 2, .inl (fun _ => 0))), ((a 20), .inl ((ca 20), 2, .inl (fun _ => 0)))] H := hP
  have hD : va_D A [(m0, .inr (8, [.int 0, .int 0, .int 0, .int 0, .ref (a 4), .int 0, .int 0, .int 0, .int 0, .int 0, .int 0, .long 0, .int 0, .int 0, .int 0, .int 0, .int 0, .int 0, .ref (a 18), .ref (a 19), .ref (a 20), .ref (a 21), .ref (a 22), .ref (a 23), .ref (a 24), .ref (a 25), .ref (a 26), .ref (a 27), .ref (a 28), .ref (a 29), .ref (a 30), .ref (a 31), .ref (a 32), .ref (a 33), .ref (a 34), .ref (a 35), .long 0, .int 0, .ref (a 38), .ref (a 39), .int 0, .ref (a 41), .ref (a 42), .ref (a 43)])), ((a 21), .inl ((ca 21), 2, .inl (fun _ => 0))), ((a 20), .inl ((ca 20), 2, .inl (fun _ => 0)))] := hD
  refine W.widen (k := 243) (n := 7586) (Nat.le_of_ble_eq_true rfl) (Nat.le_of_ble_eq_true rfl) ?_
  have h_u1 : r2 = (-1) := h_u1
  subst h_u1
  refine lv_aload_n hx hb dL_law_855 rfl (lv_at hl 2 rfl) ?_
  refine lv_aload_n hx hb dL_law_856 rfl (lv_at hl 4 rfl) ?_
  refine lv_iload hx hb dL_law_857 (lv_at hl 0 rfl) ?_
  refine lv_iconst (v := 1) hx hb dL_law_859 (by decide) ?_
  refine lv_iadd hx hb dL_law_860 ?_
  refine cst (v := 1) (by decide) ?_
  refine va_sld hx hb hX hbl hbA hS (vin0 (by decide)) dL_law_861 ?_
  refine cst (v := (-1)) ((congrArg xs (show (1 : Int32).toNatClampNeg = 1 by decide)).trans hq1) ?_
  refine lv_aload_n hx hb dL_law_862 rfl (lv_at hl 4 rfl) ?_
  refine lv_iload hx hb dL_law_863 (lv_at hl 0 rfl) ?_
  refine lv_iconst (v := 2) hx hb dL_law_865 (by decide) ?_
  refine lv_iadd hx hb dL_law_866 ?_
  refine cst (v := 2) (by decide) ?_
  refine va_sld hx hb hX hbl hbA hS (vin0 (by decide)) dL_law_867 ?_
  refine cst (v := (nI rn)) ((congrArg xs (show (2 : Int32).toNatClampNeg = 2 by decide)).trans hq2) ?_
  have hPc := hP.sub (ws' := [(m0, .inr (8, [.int 0, .int 0, .int 0, .int 0, .ref (a 4), .int 0, .int 0, .int 0, .int 0, .int 0, .int 0, .long 0, .int 0, .int 0, .int 0, .int 0, .int 0, .int 0, .ref (a 18), .ref (a 19), .ref (a 20), .ref (a 21), .ref (a 22), .ref (a 23), .ref (a 24), .ref (a 25), .ref (a 26), .ref (a 27), .ref (a 28), .ref (a 29), .ref (a 30), .ref (a 31), .ref (a 32), .ref (a 33), .ref (a 34), .ref (a 35), .long 0, .int 0, .ref (a 38), .ref (a 39), .int 0, .ref (a 41), .ref (a 42), .ref (a 43)])), ((a 21), .inl ((ca 21), 2, .inl (fun _ => 0))), ((a 20), .inl ((ca 20), 2, .inl (fun _ => 0)))]) [0, 1, 2] rfl
  have hKc := hK.sub (tys' := [((ca 21), .int), ((ca 20), .int)]) [0, 1] rfl
  have hDc := hD.sub (ws' := [(m0, .inr (8, [.int 0, .int 0, .int 0, .int 0, .ref (a 4), .int 0, .int 0, .int 0, .int 0, .int 0, .int 0, .long 0, .int 0, .int 0, .int 0, .int 0, .int 0, .int 0, .ref (a 18), .ref (a 19), .ref (a 20), .ref (a 21), .ref (a 22), .ref (a 23), .ref (a 24), .ref (a 25), .ref (a 26), .ref (a 27), .ref (a 28), .ref (a 29), .ref (a 30), .ref (a 31), .ref (a 32), .ref (a 33), .ref (a 34), .ref (a 35), .long 0, .int 0, .ref (a 38), .ref (a 39), .int 0, .ref (a 41), .ref (a 42), .ref (a 43)])), ((a 21), .inl ((ca 21), 2, .inl (fun _ => 0))), ((a 20), .inl ((ca 20), 2, .inl (fun _ => 0)))]) [0, 1, 2] (by decide) rfl
  have hFc := va_free (wc := [(m0, .inr (8, [.int 0, .int 0, .int 0, .int 0, .ref (a 4), .int 0, .int 0, .int 0, .int 0, .int 0, .int 0, .long 0, .int 0, .int 0, .int 0, .int 0, .int 0, .int 0, .ref (a 18), .ref (a 19), .ref (a 20), .ref (a 21), .ref (a 22), .ref (a 23), .ref (a 24), .ref (a 25), .ref (a 26), .ref (a 27), .ref (a 28), .ref (a 29), .ref (a 30), .ref (a 31), .ref (a 32), .ref (a 33), .ref (a 34), .ref (a 35), .long 0, .int 0, .ref (a 38), .ref (a 39), .int 0, .ref (a 41), .ref (a 42), .ref (a 43)])), ((a 21), .inl ((ca 21), 2, .inl (fun _ => 0))), ((a 20), .inl ((ca 20), 2, .inl (fun _ => 0)))]) hD hS hA [0, 1, 2] rfl
  refine va_calli (va_runV (As := [.int (-1), .int (nI rn)]) (rest := [.int (-1)]) ⟨hx, hb, hml, hown, hts⟩ (c_9next_M l dC dI g H.size (m0) (a) (ca) (rn) hrn) (cwV 2 hts (gwV qw_522 qw_523 qw_524 qw_23 qw_521) rfl rfl rfl (by decide +kernel) ⟨Nat.le_of_ble_eq_true rfl, Nat.le_of_ble_eq_true rfl⟩) ⟨fun a U g9 mk q => ⟨q.1, q.2.1, q.2.2.1, va_K.moved (u := U) (U := U.calling g9 mk a) (Vm.Alike.refl U.vm) q.2.2.2.1, q.2.2.2.2.1, Ev.bl q.2.2.2.2.2⟩, va_recv hK hP (ci := 8) (q0 := 0) rfl rfl, fun U hU hW => ⟨rfl, by rw [hU], by rw [hU]; exact hPc, va_K.moved hW.alike hKc, hDc.weaken (fun _ _ _ _ => trivial), hE.go hS hFc hU hW⟩⟩ rfl rfl hl.1 rfl (lv_room (Nat.le_of_ble_eq_true rfl)) dL_law_868 ⟨Nat.le_of_ble_eq_true rfl, Nat.le_of_ble_eq_true rfl⟩) hS (fun q _ h => hFc q h) hFc (fun r4 u3 t H1 locs ht hvm h_u3 hB hz1 hk1 hS => ?_)
  obtain ⟨hP, hD⟩ := va_join (wr := []) (w1 := []) hP hD [0, 1, 2] [] rfl rfl (by decide) (by decide) hk1 hFc va_P0 va_D0
  generalize H1 = H at hP hS ⊢
  have hP : va_P (dC, dI) vwCl [] H := hP
  have hD : va_D A [] := hD
  refine W.widen (k := 243) (n := 7586) (Nat.le_of_ble_eq_true rfl) (Nat.le_of_ble_eq_true rfl) ?_
  have h_u3 : r4 = (-1) := h_u3
  subst h_u3
  refine lv_icmp_eq (tgt := 1311) hx hb dL_law_871 (by decide) (fun c871_5 => ?_) (fun c871_5 => by exfalso; exact absurd c871_5 (by decide))
  refine lv_iinc (v := 6) (lv' := [(4, .int 6), (3, .ref o0), (2, .ref m0), (1, .ref x0), (0, .ref b0)]) hx hb dL_law_1311 hl (k := 0) rfl (by decide) (by decide) rfl (fun ls hl => ?_)
  refine lv_goto (tgt := 23) hx hb dL_law_1314 (by decide) ?_
  refine lv_iload hx hb dL_law_23 (lv_at hl 0 rfl) ?_
  refine lv_aload_n hx hb dL_law_25 rfl (lv_at hl 4 rfl) ?_
  refine va_slen hx hb hX hbl hbA hS dL_law_26 ?_
  refine cst (v := 6) (by decide) ?_
  refine lv_bipush (v := 6) hx hb dL_law_27 (by decide) ?_
  refine lv_isub hx hb dL_law_29 ?_
  refine cst (v := 0) (by decide) ?_
  refine lv_icmp_gt (tgt := 1317) hx hb dL_law_30 (by decide) (fun c30_6 => ?_) (fun c30_6 => by exfalso; exact absurd c30_6 (by decide))
  refine lv_iconst (v := 1) hx hb dL_law_1317 (by decide) ?_
  refine va_forget (fun q h => by have h8 := hS.2.2 q h; rw [← hAe] at h8; exact h8) ?_
  refine W.widen (k := 600002) (n := 7302232) (Nat.le_of_ble_eq_true rfl) (Nat.le_of_ble_eq_true rfl) ?_
  exact lw_ret hx hb hr hlocks dL_law_1318
set_option maxHeartbeats 4000000 in
set_option maxRecDepth 100000 in
theorem law_16C {p : Program} {e : Env} {s : State} {m : MethodId} {below : List Frame} {meth : Method} {c : Code} (l : Launch) {b0 : Nat} {xs : Nat → Int32} (C0 : lw_At p s m meth c b0 6 xs) (dC : Nat → ClassId) (dI : Nat → Nat → Nat) (g : Gv) (x0 : Nat) (b : Nat → Nat) (f4 : Nat → Nat) (c4 : ClassId) (f5 : Nat → Nat) (f7 : Nat → Nat) (f6 : Nat → Nat) (f2 : Nat → Nat) (cK : ClassId) (kf : Nat → Option Nat) (cZ : ClassId) (fT : Nat → Nat) (fU : Nat → Nat) (sa : Nat → Nat) (sf : Nat → Nat → Nat) (sc : Nat → Nat → ClassId) (spf : Nat → Nat → Int32) (sdf : Nat → Nat → Int32) (slf : Nat → Nat → Int32) (srf : Nat → Nat → Int32) (sga : Nat → Nat → Option Nat) (sgb : Nat → Nat → Option Nat) (rows : va_W) (m0 : Nat) (a : Nat → Nat) (ca : Nat → ClassId) (o0 : Nat) (dn : Nat) (hq1 : xs 1 = (nI dn)) (hdn : dn ≤ 219145) (hro0 : ¬ (0 ≤ (xs 2).toInt ∧ (xs 2).toInt ≤ 15)) {H : Heap} {locs : List Loc} {ls : Array Slot} (hK : va_K (dC, dI) vwCl [((ca 21), .int), ((ca 20), .int)] s) (hP : va_P (dC, dI) vwCl [(x0, .inr (7, [.ref (b 0), .ref (b 1), .ref (b 2), .ref (b 3), .ref (b 4), .ref (b 5), .ref (b 6), .ref (b 7), .ref (b 8), .ref (b 9), .int 1])), ((b 2), .inr (5, [.ref (f6 0), .ref (f6 1), .ref (f6 2), .ref (f6 3), .ref (f6 4), .ref (f6 5), .int 0, .int 0])), ((b 6), .inr (0, [.int 0, .ref (fT 1), .int 0, .ref (fT 3), .int 0, .ref (fT 5), .ref (fT 6), .ref (fT 7), .int 0, .ref (fT 9), .ref (fT 10), .ref (fT 11), .ref (fT 12), .ref (fT 13)])), (m0, .inr (8, [.int 0, .int 0, .int 0, .int 0, .ref (a 4), .int 0, .int 0, .int 0, .int 0, .int 0, .int 0, .long 0, .int 0, .int 0, .int 0, .int 0, .int 0, .int 0, .ref (a 18), .ref (a 19), .ref (a 20), .ref (a 21), .ref (a 22), .ref (a 23), .ref (a 24), .ref (a 25), .ref (a 26), .ref (a 27), .ref (a 28), .ref (a 29), .ref (a 30), .ref (a 31), .ref (a 32), .ref (a 33), .ref (a 34), .ref (a 35), .long 0, .int 0, .ref (a 38), .ref (a 39), .int 0, .ref (a 41), .ref (a 42), .ref (a 43)])), ((a 21), .inl ((ca 21), 2, .inl (fun _ => 0))), ((a 20), .inl ((ca 20), 2, .inl (fun _ => 0)))] H) (hD : va_D (fun q : Nat => s.heap.size ≤ q) [(x0, .inr (7, [.ref (b 0), .ref (b 1), .ref (b 2), .ref (b 3), .ref (b 4), .ref (b 5), .ref (b 6), .ref (b 7), .ref (b 8), .ref (b 9), .int 1])), ((b 2), .inr (5, [.ref (f6 0), .ref (f6 1), .ref (f6 2), .ref (f6 3), .ref (f6 4), .ref (f6 5), .int 0, .int 0])), ((b 6), .inr (0, [.int 0, .ref (fT 1), .int 0, .ref (fT 3), .int 0, .ref (fT 5), .ref (fT 6), .ref (fT 7), .int 0, .ref (fT 9), .ref (fT 10), .ref (fT 11), .ref (fT 12), .ref (fT 13)])), (m0, .inr (8, [.int 0, .int 0, .int 0, .int 0, .ref (a 4), .int 0, .int 0, .int 0, .int 0, .int 0, .int 0, .long 0, .int 0, .int 0, .int 0, .int 0, .int 0, .int 0, .ref (a 18), .ref (a 19), .ref (a 20), .ref (a 21), .ref (a 22), .ref (a 23), .ref (a 24), .ref (a 25), .ref (a 26), .ref (a 27), .ref (a 28), .ref (a 29), .ref (a 30), .ref (a 31), .ref (a 32), .ref (a 33), .ref (a 34), .ref (a 35), .long 0, .int 0, .ref (a 38), .ref (a 39), .int 0, .ref (a 41), .ref (a 42), .ref (a 43)])), ((a 21), .inl ((ca 21), 2, .inl (fun _ => 0))), ((a 20), .inl ((ca 20), 2, .inl (fun _ => 0)))]) (hS : va_S (fun q : Nat => s.heap.size ≤ q) s.heap H locs) (hE : Ev g (fun q : Nat => s.heap.size ≤ q) s) (hl : lv_has ls 7 [(4, .int 0), (3, .ref o0), (2, .ref m0), (1, .ref x0), (0, .ref b0)]) : W p l e room_1 s m #[Value.ref b0] below meth c H locs 243 7586 (lw_Z below #[Value.ref b0] s) (F0 m 839 ls []) := by
  obtain ⟨hx, hb, hr, hml, hown, hts0, hX, hbl, hlocks, hgv⟩ := id C0
  have hts := fun (w : Cond) (h : w ∈ TBL) => hts0 w (TBin w h)
  have hown : s.vm.findClass RL = some m.cls := hown
  have hN := hE.1
  have hA : ∀ q : Nat, s.heap.size ≤ q → (fun q : Nat => s.heap.size ≤ q) q := fun _ h => h
  have hbA : ¬ (fun q : Nat => s.heap.size ≤ q) b0 := Nat.not_le.mpr hbl
  generalize hAe : (fun q : Nat => s.heap.size ≤ q) = A at hD hS hE hA hbA
  refine lv_aload_n hx hb dL_law_839 rfl (lv_at hl 3 rfl) ?_
  refine lv_aload_n hx hb dL_law_840 rfl (lv_at hl 4 rfl) ?_
  refine lv_iload hx hb dL_law_841 (lv_at hl 0 rfl) ?_
  refine lv_iconst (v := 1) hx hb dL_law_843 (by decide) ?_
  refine lv_iadd hx hb dL_law_844 ?_
  refine cst (v := 1) (by decide) ?_
  refine va_sld hx hb hX hbl hbA hS (vin0 (by decide)) dL_law_845 ?_
  refine cst (v := (nI dn)) ((congrArg xs (show (1 : Int32).toNatClampNeg = 1 by decide)).trans hq1) ?_
  refine lv_aload_n hx hb dL_law_846 rfl (lv_at hl 4 rfl) ?_
  refine lv_iload hx hb dL_law_847 (lv_at hl 0 rfl) ?_
  refine lv_iconst (v := 2) hx hb dL_law_849 (by decide) ?_
  refine lv_iadd hx hb dL_law_850 ?_
  refine cst (v := 2) (by decide) ?_
  refine va_sld hx hb hX hbl hbA hS (vin0 (by decide)) dL_law_851 ?_
  refine cst (v := (xs 2)) (congrArg xs (show (2 : Int32).toNatClampNeg = 2 by decide)) ?_
  have hPc := hP.sub (ws' := [(x0, .inr (7, [.ref (b 0), .ref (b 1), .ref (b 2), .ref (b 3), .ref (b 4), .ref (b 5), .ref (b 6), .ref (b 7), .ref (b 8), .ref (b 9), .int 1])), ((b 2), .inr (5, [.ref (f6 0), .ref (f6 1), .ref (f6 2), .ref (f6 3), .ref (f6 4), .ref (f6 5), .int 0, .int 0])), ((b 6), .inr (0, [.int 0, .ref (fT 1), .int 0, .ref (fT 3), .int 0, .ref (fT 5), .ref (fT 6), .ref (fT 7), .int 0, .ref (fT 9), .ref (fT 10), .ref (fT 11), .ref (fT 12), .ref (fT 13)]))]) [0, 1, 2] rfl
  have hKc := hK.sub (tys' := []) [] rfl
  have hDc := hD.sub (ws' := [(x0, .inr (7, [.ref (b 0), .ref (b 1), .ref (b 2), .ref (b 3), .ref (b 4), .ref (b 5), .ref (b 6), .ref (b 7), .ref (b 8), .ref (b 9), .int 1])), ((b 2), .inr (5, [.ref (f6 0), .ref (f6 1), .ref (f6 2), .ref (f6 3), .ref (f6 4), .ref (f6 5), .int 0, .int 0])), ((b 6), .inr (0, [.int 0, .ref (fT 1), .int 0, .ref (fT 3), .int 0, .ref (fT 5), .ref (fT 6), .ref (fT 7), .int 0, .ref (fT 9), .ref (fT 10), .ref (fT 11), .ref (fT 12), .ref (fT 13)]))]) [0, 1, 2] (by decide) rfl
  have hFc := va_free (wc := [(x0, .inr (7, [.ref (b 0), .ref (b 1), .ref (b 2), .ref (b 3), .ref (b 4), .ref (b 5), .ref (b 6), .ref (b 7), .ref (b 8), .ref (b 9), .int 1])), ((b 2), .inr (5, [.ref (f6 0), .ref (f6 1), .ref (f6 2), .ref (f6 3), .ref (f6 4), .ref (f6 5), .int 0, .int 0])), ((b 6), .inr (0, [.int 0, .ref (fT 1), .int 0, .ref (fT 3), .int 0, .ref (fT 5), .ref (fT 6), .ref (fT 7), .int 0, .ref (fT 9), .ref (fT 10), .ref (fT 11), .ref (fT 12), .ref (fT 13)]))]) hD hS hA [0, 1, 2] rfl
  refine va_calli (va_runV (As := [.int (nI dn), .int (xs 2)]) (rest := []) ⟨hx, hb, hml, hown, hts⟩ (c_8next_C l dC dI g H.size (x0) (b) (f4) (c4) (f5) (f7) (f6) (f2) (cK) (kf) (cZ) (fT) (fU) (sa) (sf) (sc) (spf) (sdf) (slf) (srf) (sga) (sgb) (rows) (dn) ((xs 2)) hdn hro0) (cwV 2 hts (gwV qw_518 qw_519 qw_520 qw_69 qw_517) rfl rfl rfl (by decide +kernel) ⟨Nat.le_of_ble_eq_true rfl, Nat.le_of_ble_eq_true rfl⟩) ⟨fun a U g9 mk q => ⟨q.1, q.2.1, q.2.2.1, va_K.moved (u := U) (U := U.calling g9 mk a) (Vm.Alike.refl U.vm) q.2.2.2.1, q.2.2.2.2.1, Ev.bl q.2.2.2.2.2⟩, va_recv hK hP (ci := 7) (q0 := 0) rfl rfl, fun U hU hW => ⟨rfl, by rw [hU], by rw [hU]; exact hPc, va_K.moved hW.alike hKc, hDc.weaken (fun _ _ _ _ => trivial), hE.go hS hFc hU hW⟩⟩ rfl rfl hl.1 rfl (lv_room (Nat.le_of_ble_eq_true rfl)) dL_law_852 ⟨Nat.le_of_ble_eq_true rfl, Nat.le_of_ble_eq_true rfl⟩) hS (fun q _ h => hFc q h) hFc (fun r2 u1 t H1 locs ht hvm h_u1 hB hz1 hk1 hS => ?_)
  obtain ⟨hP, hD⟩ := va_join (wr := [(m0, .inr (8, [.int 0, .int 0, .int 0, .int 0, .ref (a 4), .int 0, .int 0, .int 0, .int 0, .int 0, .int 0, .long 0, .int 0, .int 0, .int 0, .int 0, .int 0, .int 0, .ref (a 18), .ref (a 19), .ref (a 20), .ref (a 21), .ref (a 22), .ref (a 23), .ref (a 24), .ref (a 25), .ref (a 26), .ref (a 27), .ref (a 28), .ref (a 29), .ref (a 30), .ref (a 31), .ref (a 32), .ref (a 33), .ref (a 34), .ref (a 35), .long 0, .int 0, .ref (a 38), .ref (a 39), .int 0, .ref (a 41), .ref (a 42), .ref (a 43)])), ((a 21), .inl ((ca 21), 2, .inl (fun _ => 0))), ((a 20), .inl ((ca 20), 2, .inl (fun _ => 0)))]) (w1 := []) hP hD [0, 1, 2] [3, 4, 5] rfl rfl (by decide) (by decide) hk1 hFc va_P0 va_D0
  generalize H1 = H at hP hS ⊢
  have hP : va_P (dC, dI) vwCl [(m0, .inr (8, [.int 0, .int 0, .int 0, .int 0, .ref (a 4), .int 0, .int 0, .int 0, .int 0, .int 0, .int 0, .long 0, .int 0, .int 0, .int 0, .int 0, .int 0, .int 0, .ref (a 18), .ref (a 19), .ref (a 20), .ref (a 21), .ref (a 22), .ref (a 23), .ref (a 24), .ref (a 25), .ref (a 26), .ref (a 27), .ref (a 28), .ref (a 29), .ref (a 30), .ref (a 31), .ref (a 32), .ref (a 33), .ref (a 34), .ref (a 35), .long 0, .int 0, .ref (a 38), .ref (a 39), .int 0, .ref (a 41), .ref (a 42), .ref (a 43)])), ((a 21), .inl ((ca 21), 2, .inl (fun _ => 0))), ((a 20), .inl ((ca 20), 2, .inl (fun _ => 0)))] H := hP
  have hD : va_D A [(m0, .inr (8, [.int 0, .int 0, .int 0, .int 0, .ref (a 4), .int 0, .int 0, .int 0, .int 0, .int 0, .int 0, .long 0, .int 0, .int 0, .int 0, .int 0, .int 0, .int 0, .ref (a 18), .ref (a 19), .ref (a 20), .ref (a 21), .ref (a 22), .ref (a 23), .ref (a 24), .ref (a 25), .ref (a 26), .ref (a 27), .ref (a 28), .ref (a 29), .ref (a 30), .ref (a 31), .ref (a 32), .ref (a 33), .ref (a 34), .ref (a 35), .long 0, .int 0, .ref (a 38), .ref (a 39), .int 0, .ref (a 41), .ref (a 42), .ref (a 43)])), ((a 21), .inl ((ca 21), 2, .inl (fun _ => 0))), ((a 20), .inl ((ca 20), 2, .inl (fun _ => 0)))] := hD
  refine W.widen (k := 243) (n := 7586) (Nat.le_of_ble_eq_true rfl) (Nat.le_of_ble_eq_true rfl) ?_
  have h_u1 : r2 = (-1) := h_u1
  subst h_u1
  refine lv_aload_n hx hb dL_law_855 rfl (lv_at hl 2 rfl) ?_
  refine lv_aload_n hx hb dL_law_856 rfl (lv_at hl 4 rfl) ?_
  refine lv_iload hx hb dL_law_857 (lv_at hl 0 rfl) ?_
  refine lv_iconst (v := 1) hx hb dL_law_859 (by decide) ?_
  refine lv_iadd hx hb dL_law_860 ?_
  refine cst (v := 1) (by decide) ?_
  refine va_sld hx hb hX hbl hbA hS (vin0 (by decide)) dL_law_861 ?_
  refine cst (v := (nI dn)) ((congrArg xs (show (1 : Int32).toNatClampNeg = 1 by decide)).trans hq1) ?_
  refine lv_aload_n hx hb dL_law_862 rfl (lv_at hl 4 rfl) ?_
  refine lv_iload hx hb dL_law_863 (lv_at hl 0 rfl) ?_
  refine lv_iconst (v := 2) hx hb dL_law_865 (by decide) ?_
  refine lv_iadd hx hb dL_law_866 ?_
  refine cst (v := 2) (by decide) ?_
  refine va_sld hx hb hX hbl hbA hS (vin0 (by decide)) dL_law_867 ?_
  refine cst (v := (xs 2)) (congrArg xs (show (2 : Int32).toNatClampNeg = 2 by decide)) ?_
  have hPc := hP.sub (ws' := [(m0, .inr (8, [.int 0, .int 0, .int 0, .int 0, .ref (a 4), .int 0, .int 0, .int 0, .int 0, .int 0, .int 0, .long 0, .int 0, .int 0, .int 0, .int 0, .int 0, .int 0, .ref (a 18), .ref (a 19), .ref (a 20), .ref (a 21), .ref (a 22), .ref (a 23), .ref (a 24), .ref (a 25), .ref (a 26), .ref (a 27), .ref (a 28), .ref (a 29), .ref (a 30), .ref (a 31), .ref (a 32), .ref (a 33), .ref (a 34), .ref (a 35), .long 0, .int 0, .ref (a 38), .ref (a 39), .int 0, .ref (a 41), .ref (a 42), .ref (a 43)])), ((a 21), .inl ((ca 21), 2, .inl (fun _ => 0))), ((a 20), .inl ((ca 20), 2, .inl (fun _ => 0)))]) [0, 1, 2] rfl
  have hKc := hK.sub (tys' := [((ca 21), .int), ((ca 20), .int)]) [0, 1] rfl
  have hDc := hD.sub (ws' := [(m0, .inr (8, [.int 0, .int 0, .int 0, .int 0, .ref (a 4), .int 0, .int 0, .int 0, .int 0, .int 0, .int 0, .long 0, .int 0, .int 0, .int 0, .int 0, .int 0, .int 0, .ref (a 18), .ref (a 19), .ref (a 20), .ref (a 21), .ref (a 22), .ref (a 23), .ref (a 24), .ref (a 25), .ref (a 26), .ref (a 27), .ref (a 28), .ref (a 29), .ref (a 30), .ref (a 31), .ref (a 32), .ref (a 33), .ref (a 34), .ref (a 35), .long 0, .int 0, .ref (a 38), .ref (a 39), .int 0, .ref (a 41), .ref (a 42), .ref (a 43)])), ((a 21), .inl ((ca 21), 2, .inl (fun _ => 0))), ((a 20), .inl ((ca 20), 2, .inl (fun _ => 0)))]) [0, 1, 2] (by decide) rfl
  have hFc := va_free (wc := [(m0, .inr (8, [.int 0, .int 0, .int 0, .int 0, .ref (a 4), .int 0, .int 0, .int 0, .int 0, .int 0, .int 0, .long 0, .int 0, .int 0, .int 0, .int 0, .int 0, .int 0, .ref (a 18), .ref (a 19), .ref (a 20), .ref (a 21), .ref (a 22), .ref (a 23), .ref (a 24), .ref (a 25), .ref (a 26), .ref (a 27), .ref (a 28), .ref (a 29), .ref (a 30), .ref (a 31), .ref (a 32), .ref (a 33), .ref (a 34), .ref (a 35), .long 0, .int 0, .ref (a 38), .ref (a 39), .int 0, .ref (a 41), .ref (a 42), .ref (a 43)])), ((a 21), .inl ((ca 21), 2, .inl (fun _ => 0))), ((a 20), .inl ((ca 20), 2, .inl (fun _ => 0)))]) hD hS hA [0, 1, 2] rfl
  refine va_calli (va_runV (As := [.int (nI dn), .int (xs 2)]) (rest := [.int (-1)]) ⟨hx, hb, hml, hown, hts⟩ (c_9next_C l dC dI g H.size (m0) (a) (ca) (dn) ((xs 2)) hdn hro0) (cwV 2 hts (gwV qw_522 qw_523 qw_524 qw_23 qw_521) rfl rfl rfl (by decide +kernel) ⟨Nat.le_of_ble_eq_true rfl, Nat.le_of_ble_eq_true rfl⟩) ⟨fun a U g9 mk q => ⟨q.1, q.2.1, q.2.2.1, va_K.moved (u := U) (U := U.calling g9 mk a) (Vm.Alike.refl U.vm) q.2.2.2.1, q.2.2.2.2.1, Ev.bl q.2.2.2.2.2⟩, va_recv hK hP (ci := 8) (q0 := 0) rfl rfl, fun U hU hW => ⟨rfl, by rw [hU], by rw [hU]; exact hPc, va_K.moved hW.alike hKc, hDc.weaken (fun _ _ _ _ => trivial), hE.go hS hFc hU hW⟩⟩ rfl rfl hl.1 rfl (lv_room (Nat.le_of_ble_eq_true rfl)) dL_law_868 ⟨Nat.le_of_ble_eq_true rfl, Nat.le_of_ble_eq_true rfl⟩) hS (fun q _ h => hFc q h) hFc (fun r4 u3 t H1 locs ht hvm h_u3 hB hz1 hk1 hS => ?_)
  obtain ⟨hP, hD⟩ := va_join (wr := []) (w1 := []) hP hD [0, 1, 2] [] rfl rfl (by decide) (by decide) hk1 hFc va_P0 va_D0
  generalize H1 = H at hP hS ⊢
  have hP : va_P (dC, dI) vwCl [] H := hP
  have hD : va_D A [] := hD
  refine W.widen (k := 243) (n := 7586) (Nat.le_of_ble_eq_true rfl) (Nat.le_of_ble_eq_true rfl) ?_
  have h_u3 : r4 = (-1) := h_u3
  subst h_u3
  refine lv_icmp_eq (tgt := 1311) hx hb dL_law_871 (by decide) (fun c871_5 => ?_) (fun c871_5 => by exfalso; exact absurd c871_5 (by decide))
  refine lv_iinc (v := 6) (lv' := [(4, .int 6), (3, .ref o0), (2, .ref m0), (1, .ref x0), (0, .ref b0)]) hx hb dL_law_1311 hl (k := 0) rfl (by decide) (by decide) rfl (fun ls hl => ?_)
  refine lv_goto (tgt := 23) hx hb dL_law_1314 (by decide) ?_
  refine lv_iload hx hb dL_law_23 (lv_at hl 0 rfl) ?_
  refine lv_aload_n hx hb dL_law_25 rfl (lv_at hl 4 rfl) ?_
  refine va_slen hx hb hX hbl hbA hS dL_law_26 ?_
  refine cst (v := 6) (by decide) ?_
  refine lv_bipush (v := 6) hx hb dL_law_27 (by decide) ?_
  refine lv_isub hx hb dL_law_29 ?_
  refine cst (v := 0) (by decide) ?_
  refine lv_icmp_gt (tgt := 1317) hx hb dL_law_30 (by decide) (fun c30_6 => ?_) (fun c30_6 => by exfalso; exact absurd c30_6 (by decide))
  refine lv_iconst (v := 1) hx hb dL_law_1317 (by decide) ?_
  refine va_forget (fun q h => by have h8 := hS.2.2 q h; rw [← hAe] at h8; exact h8) ?_
  refine W.widen (k := 600002) (n := 7302232) (Nat.le_of_ble_eq_true rfl) (Nat.le_of_ble_eq_true rfl) ?_
  exact lw_ret hx hb hr hlocks dL_law_1318
set_option maxHeartbeats 4000000 in
set_option maxRecDepth 100000 in
theorem law_16N {p : Program} {e : Env} {s : State} {m : MethodId} {below : List Frame} {meth : Method} {c : Code} (l : Launch) {b0 : Nat} {xs : Nat → Int32} (C0 : lw_At p s m meth c b0 6 xs) (dC : Nat → ClassId) (dI : Nat → Nat → Nat) (g : Gv) (x0 : Nat) (b : Nat → Nat) (f4 : Nat → Nat) (c4 : ClassId) (f5 : Nat → Nat) (f7 : Nat → Nat) (f6 : Nat → Nat) (f2 : Nat → Nat) (cK : ClassId) (kf : Nat → Option Nat) (cZ : ClassId) (fT : Nat → Nat) (fU : Nat → Nat) (sa : Nat → Nat) (sf : Nat → Nat → Nat) (sc : Nat → Nat → ClassId) (spf : Nat → Nat → Int32) (sdf : Nat → Nat → Int32) (slf : Nat → Nat → Int32) (srf : Nat → Nat → Int32) (sga : Nat → Nat → Option Nat) (sgb : Nat → Nat → Option Nat) (rows : va_W) (m0 : Nat) (a : Nat → Nat) (ca : Nat → ClassId) (o0 : Nat)  (hq1 : xs 1 = (-1)) (hro0 : ¬ (0 ≤ (xs 2).toInt ∧ (xs 2).toInt ≤ 15)) {H : Heap} {locs : List Loc} {ls : Array Slot} (hK : va_K (dC, dI) vwCl [((ca 21), .int), ((ca 20), .int)] s) (hP : va_P (dC, dI) vwCl [(x0, .inr (7, [.ref (b 0), .ref (b 1), .ref (b 2), .ref (b 3), .ref (b 4), .ref (b 5), .ref (b 6), .ref (b 7), .ref (b 8), .ref (b 9), .int 1])), ((b 2), .inr (5, [.ref (f6 0), .ref (f6 1), .ref (f6 2), .ref (f6 3), .ref (f6 4), .ref (f6 5), .int 0, .int 0])), ((b 6), .inr (0, [.int 0, .ref (fT 1), .int 0, .ref (fT 3), .int 0, .ref (fT 5), .ref (fT 6), .ref (fT 7), .int 0, .ref (fT 9), .ref (fT 10), .ref (fT 11), .ref (fT 12), .ref (fT 13)])), (m0, .inr (8, [.int 0, .int 0, .int 0, .int 0, .ref (a 4), .int 0, .int 0, .int 0, .int 0, .int 0, .int 0, .long 0, .int 0, .int 0, .int 0, .int 0, .int 0, .int 0, .ref (a 18), .ref (a 19), .ref (a 20), .ref (a 21), .ref (a 22), .ref (a 23), .ref (a 24), .ref (a 25), .ref (a 26), .ref (a 27), .ref (a 28), .ref (a 29), .ref (a 30), .ref (a 31), .ref (a 32), .ref (a 33), .ref (a 34), .ref (a 35), .long 0, .int 0, .ref (a 38), .ref (a 39), .int 0, .ref (a 41), .ref (a 42), .ref (a 43)])), ((a 21), .inl ((ca 21), 2, .inl (fun _ => 0))), ((a 20), .inl ((ca 20), 2, .inl (fun _ => 0)))] H) (hD : va_D (fun q : Nat => s.heap.size ≤ q) [(x0, .inr (7, [.ref (b 0), .ref (b 1), .ref (b 2), .ref (b 3), .ref (b 4), .ref (b 5), .ref (b 6), .ref (b 7), .ref (b 8), .ref (b 9), .int 1])), ((b 2), .inr (5, [.ref (f6 0), .ref (f6 1), .ref (f6 2), .ref (f6 3), .ref (f6 4), .ref (f6 5), .int 0, .int 0])), ((b 6), .inr (0, [.int 0, .ref (fT 1), .int 0, .ref (fT 3), .int 0, .ref (fT 5), .ref (fT 6), .ref (fT 7), .int 0, .ref (fT 9), .ref (fT 10), .ref (fT 11), .ref (fT 12), .ref (fT 13)])), (m0, .inr (8, [.int 0, .int 0, .int 0, .int 0, .ref (a 4), .int 0, .int 0, .int 0, .int 0, .int 0, .int 0, .long 0, .int 0, .int 0, .int 0, .int 0, .int 0, .int 0, .ref (a 18), .ref (a 19), .ref (a 20), .ref (a 21), .ref (a 22), .ref (a 23), .ref (a 24), .ref (a 25), .ref (a 26), .ref (a 27), .ref (a 28), .ref (a 29), .ref (a 30), .ref (a 31), .ref (a 32), .ref (a 33), .ref (a 34), .ref (a 35), .long 0, .int 0, .ref (a 38), .ref (a 39), .int 0, .ref (a 41), .ref (a 42), .ref (a 43)])), ((a 21), .inl ((ca 21), 2, .inl (fun _ => 0))), ((a 20), .inl ((ca 20), 2, .inl (fun _ => 0)))]) (hS : va_S (fun q : Nat => s.heap.size ≤ q) s.heap H locs) (hE : Ev g (fun q : Nat => s.heap.size ≤ q) s) (hl : lv_has ls 7 [(4, .int 0), (3, .ref o0), (2, .ref m0), (1, .ref x0), (0, .ref b0)]) : W p l e room_1 s m #[Value.ref b0] below meth c H locs 243 7586 (lw_Z below #[Value.ref b0] s) (F0 m 839 ls []) := by
  obtain ⟨hx, hb, hr, hml, hown, hts0, hX, hbl, hlocks, hgv⟩ := id C0
  have hts := fun (w : Cond) (h : w ∈ TBL) => hts0 w (TBin w h)
  have hown : s.vm.findClass RL = some m.cls := hown
  have hN := hE.1
  have hA : ∀ q : Nat, s.heap.size ≤ q → (fun q : Nat => s.heap.size ≤ q) q := fun _ h => h
  have hbA : ¬ (fun q : Nat => s.heap.size ≤ q) b0 := Nat.not_le.mpr hbl
  generalize hAe : (fun q : Nat => s.heap.size ≤ q) = A at hD hS hE hA hbA
  refine lv_aload_n hx hb dL_law_839 rfl (lv_at hl 3 rfl) ?_
  refine lv_aload_n hx hb dL_law_840 rfl (lv_at hl 4 rfl) ?_
  refine lv_iload hx hb dL_law_841 (lv_at hl 0 rfl) ?_
  refine lv_iconst (v := 1) hx hb dL_law_843 (by decide) ?_
  refine lv_iadd hx hb dL_law_844 ?_
  refine cst (v := 1) (by decide) ?_
  refine va_sld hx hb hX hbl hbA hS (vin0 (by decide)) dL_law_845 ?_
  refine cst (v := (-1)) ((congrArg xs (show (1 : Int32).toNatClampNeg = 1 by decide)).trans hq1) ?_
  refine lv_aload_n hx hb dL_law_846 rfl (lv_at hl 4 rfl) ?_
  refine lv_iload hx hb dL_law_847 (lv_at hl 0 rfl) ?_
  refine lv_iconst (v := 2) hx hb dL_law_849 (by decide) ?_
  refine lv_iadd hx hb dL_law_850 ?_
  refine cst (v := 2) (by decide) ?_
  refine va_sld hx hb hX hbl hbA hS (vin0 (by decide)) dL_law_851 ?_
  refine cst (v := (xs 2)) (congrArg xs (show (2 : Int32).toNatClampNeg = 2 by decide)) ?_
  have hPc := hP.sub (ws' := [(x0, .inr (7, [.ref (b 0), .ref (b 1), .ref (b 2), .ref (b 3), .ref (b 4), .ref (b 5), .ref (b 6), .ref (b 7), .ref (b 8), .ref (b 9), .int 1])), ((b 2), .inr (5, [.ref (f6 0), .ref (f6 1), .ref (f6 2), .ref (f6 3), .ref (f6 4), .ref (f6 5), .int 0, .int 0])), ((b 6), .inr (0, [.int 0, .ref (fT 1), .int 0, .ref (fT 3), .int 0, .ref (fT 5), .ref (fT 6), .ref (fT 7), .int 0, .ref (fT 9), .ref (fT 10), .ref (fT 11), .ref (fT 12), .ref (fT 13)]))]) [0, 1, 2] rfl
  have hKc := hK.sub (tys' := []) [] rfl
  have hDc := hD.sub (ws' := [(x0, .inr (7, [.ref (b 0), .ref (b 1), .ref (b 2), .ref (b 3), .ref (b 4), .ref (b 5), .ref (b 6), .ref (b 7), .ref (b 8), .ref (b 9), .int 1])), ((b 2), .inr (5, [.ref (f6 0), .ref (f6 1), .ref (f6 2), .ref (f6 3), .ref (f6 4), .ref (f6 5), .int 0, .int 0])), ((b 6), .inr (0, [.int 0, .ref (fT 1), .int 0, .ref (fT 3), .int 0, .ref (fT 5), .ref (fT 6), .ref (fT 7), .int 0, .ref (fT 9), .ref (fT 10), .ref (fT 11), .ref (fT 12), .ref (fT 13)]))]) [0, 1, 2] (by decide) rfl
  have hFc := va_free (wc := [(x0, .inr (7, [.ref (b 0), .ref (b 1), .ref (b 2), .ref (b 3), .ref (b 4), .ref (b 5), .ref (b 6), .ref (b 7), .ref (b 8), .ref (b 9), .int 1])), ((b 2), .inr (5, [.ref (f6 0), .ref (f6 1), .ref (f6 2), .ref (f6 3), .ref (f6 4), .ref (f6 5), .int 0, .int 0])), ((b 6), .inr (0, [.int 0, .ref (fT 1), .int 0, .ref (fT 3), .int 0, .ref (fT 5), .ref (fT 6), .ref (fT 7), .int 0, .ref (fT 9), .ref (fT 10), .ref (fT 11), .ref (fT 12), .ref (fT 13)]))]) hD hS hA [0, 1, 2] rfl
  refine va_calli (va_runV (As := [.int (-1), .int (xs 2)]) (rest := []) ⟨hx, hb, hml, hown, hts⟩ (c_8next_N l dC dI g H.size (x0) (b) (f4) (c4) (f5) (f7) (f6) (f2) (cK) (kf) (cZ) (fT) (fU) (sa) (sf) (sc) (spf) (sdf) (slf) (srf) (sga) (sgb) (rows) ((xs 2)) hro0) (cwV 2 hts (gwV qw_518 qw_519 qw_520 qw_69 qw_517) rfl rfl rfl (by decide +kernel) ⟨Nat.le_of_ble_eq_true rfl, Nat.le_of_ble_eq_true rfl⟩) ⟨fun a U g9 mk q => ⟨q.1, q.2.1, q.2.2.1, va_K.moved (u := U) (U := U.calling g9 mk a) (Vm.Alike.refl U.vm) q.2.2.2.1, q.2.2.2.2.1, Ev.bl q.2.2.2.2.2⟩, va_recv hK hP (ci := 7) (q0 := 0) rfl rfl, fun U hU hW => ⟨rfl, by rw [hU], by rw [hU]; exact hPc, va_K.moved hW.alike hKc, hDc.weaken (fun _ _ _ _ => trivial), hE.go hS hFc hU hW⟩⟩ rfl rfl hl.1 rfl (lv_room (Nat.le_of_ble_eq_true rfl)) dL_law_852 ⟨Nat.le_of_ble_eq_true rfl, Nat.le_of_ble_eq_true rfl⟩) hS (fun q _ h => hFc q h) hFc (fun r2 u1 t H1 locs ht hvm h_u1 hB hz1 hk1 hS => ?_)
  obtain ⟨hP, hD⟩ := va_join (wr := [(m0, .inr (8, [.int 0, .int 0, .int 0, .int 0, .ref (a 4), .int 0, .int 0, .int 0, .int 0, .int 0, .int 0, .long 0, .int 0, .int 0, .int 0, .int 0, .int 0, .int 0, .ref (a 18), .ref (a 19), .ref (a 20), .ref (a 21), .ref (a 22), .ref (a 23), .ref (a 24), .ref (a 25), .ref (a 26), .ref (a 27), .ref (a 28), .ref (a 29), .ref (a 30), .ref (a 31), .ref (a 32), .ref (a 33), .ref (a 34), .ref (a 35), .long 0, .int 0, .ref (a 38), .ref (a 39), .int 0, .ref (a 41), .ref (a 42), .ref (a 43)])), ((a 21), .inl ((ca 21), 2, .inl (fun _ => 0))), ((a 20), .inl ((ca 20), 2, .inl (fun _ => 0)))]) (w1 := []) hP hD [0, 1, 2] [3, 4, 5] rfl rfl (by decide) (by decide) hk1 hFc va_P0 va_D0
  generalize H1 = H at hP hS ⊢
  have hP : va_P (dC, dI) vwCl [(m0, .inr (8, [.int 0, .int 0, .int 0, .int 0, .ref (a 4), .int 0, .int 0, .int 0, .int 0, .int 0, .int 0, .long 0, .int 0, .int 0, .int 0, .int 0, .int 0, .int 0, .ref (a 18), .ref (a 19), .ref (a 20), .ref (a 21), .ref (a 22), .ref (a 23), .ref (a 24), .ref (a 25), .ref (a 26), .ref (a 27), .ref (a 28), .ref (a 29), .ref (a 30), .ref (a 31), .ref (a 32), .ref (a 33), .ref (a 34), .ref (a 35), .long 0, .int 0, .ref (a 38), .ref (a 39), .int 0, .ref (a 41), .ref (a 42), .ref (a 43)])), ((a 21), .inl ((ca 21), 2, .inl (fun _ => 0))), ((a 20), .inl ((ca 20), 2, .inl (fun _ => 0)))] H := hP
  have hD : va_D A [(m0, .inr (8, [.int 0, .int 0, .int 0, .int 0, .ref (a 4), .int 0, .int 0, .int 0, .int 0, .int 0, .int 0, .long 0, .int 0, .int 0, .int 0, .int 0, .int 0, .int 0, .ref (a 18), .ref (a 19), .ref (a 20), .ref (a 21), .ref (a 22), .ref (a 23), .ref (a 24), .ref (a 25), .ref (a 26), .ref (a 27), .ref (a 28), .ref (a 29), .ref (a 30), .ref (a 31), .ref (a 32), .ref (a 33), .ref (a 34), .ref (a 35), .long 0, .int 0, .ref (a 38), .ref (a 39), .int 0, .ref (a 41), .ref (a 42), .ref (a 43)])), ((a 21), .inl ((ca 21), 2, .inl (fun _ => 0))), ((a 20), .inl ((ca 20), 2, .inl (fun _ => 0)))] := hD
  refine W.widen (k := 243) (n := 7586) (Nat.le_of_ble_eq_true rfl) (Nat.le_of_ble_eq_true rfl) ?_
  have h_u1 : r2 = (-1) := h_u1
  subst h_u1
  refine lv_aload_n hx hb dL_law_855 rfl (lv_at hl 2 rfl) ?_
  refine lv_aload_n hx hb dL_law_856 rfl (lv_at hl 4 rfl) ?_
  refine lv_iload hx hb dL_law_857 (lv_at hl 0 rfl) ?_
  refine lv_iconst (v := 1) hx hb dL_law_859 (by decide) ?_
  refine lv_iadd hx hb dL_law_860 ?_
  refine cst (v := 1) (by decide) ?_
  refine va_sld hx hb hX hbl hbA hS (vin0 (by decide)) dL_law_861 ?_
  refine cst (v := (-1)) ((congrArg xs (show (1 : Int32).toNatClampNeg = 1 by decide)).trans hq1) ?_
  refine lv_aload_n hx hb dL_law_862 rfl (lv_at hl 4 rfl) ?_
  refine lv_iload hx hb dL_law_863 (lv_at hl 0 rfl) ?_
  refine lv_iconst (v := 2) hx hb dL_law_865 (by decide) ?_
  refine lv_iadd hx hb dL_law_866 ?_
  refine cst (v := 2) (by decide) ?_
  refine va_sld hx hb hX hbl hbA hS (vin0 (by decide)) dL_law_867 ?_
  refine cst (v := (xs 2)) (congrArg xs (show (2 : Int32).toNatClampNeg = 2 by decide)) ?_
  have hPc := hP.sub (ws' := [(m0, .inr (8, [.int 0, .int 0, .int 0, .int 0, .ref (a 4), .int 0, .int 0, .int 0, .int 0, .int 0, .int 0, .long 0, .int 0, .int 0, .int 0, .int 0, .int 0, .int 0, .ref (a 18), .ref (a 19), .ref (a 20), .ref (a 21), .ref (a 22), .ref (a 23), .ref (a 24), .ref (a 25), .ref (a 26), .ref (a 27), .ref (a 28), .ref (a 29), .ref (a 30), .ref (a 31), .ref (a 32), .ref (a 33), .ref (a 34), .ref (a 35), .long 0, .int 0, .ref (a 38), .ref (a 39), .int 0, .ref (a 41), .ref (a 42), .ref (a 43)])), ((a 21), .inl ((ca 21), 2, .inl (fun _ => 0))), ((a 20), .inl ((ca 20), 2, .inl (fun _ => 0)))]) [0, 1, 2] rfl
  have hKc := hK.sub (tys' := [((ca 21), .int), ((ca 20), .int)]) [0, 1] rfl
  have hDc := hD.sub (ws' := [(m0, .inr (8, [.int 0, .int 0, .int 0, .int 0, .ref (a 4), .int 0, .int 0, .int 0, .int 0, .int 0, .int 0, .long 0, .int 0, .int 0, .int 0, .int 0, .int 0, .int 0, .ref (a 18), .ref (a 19), .ref (a 20), .ref (a 21), .ref (a 22), .ref (a 23), .ref (a 24), .ref (a 25), .ref (a 26), .ref (a 27), .ref (a 28), .ref (a 29), .ref (a 30), .ref (a 31), .ref (a 32), .ref (a 33), .ref (a 34), .ref (a 35), .long 0, .int 0, .ref (a 38), .ref (a 39), .int 0, .ref (a 41), .ref (a 42), .ref (a 43)])), ((a 21), .inl ((ca 21), 2, .inl (fun _ => 0))), ((a 20), .inl ((ca 20), 2, .inl (fun _ => 0)))]) [0, 1, 2] (by decide) rfl
  have hFc := va_free (wc := [(m0, .inr (8, [.int 0, .int 0, .int 0, .int 0, .ref (a 4), .int 0, .int 0, .int 0, .int 0, .int 0, .int 0, .long 0, .int 0, .int 0, .int 0, .int 0, .int 0, .int 0, .ref (a 18), .ref (a 19), .ref (a 20), .ref (a 21), .ref (a 22), .ref (a 23), .ref (a 24), .ref (a 25), .ref (a 26), .ref (a 27), .ref (a 28), .ref (a 29), .ref (a 30), .ref (a 31), .ref (a 32), .ref (a 33), .ref (a 34), .ref (a 35), .long 0, .int 0, .ref (a 38), .ref (a 39), .int 0, .ref (a 41), .ref (a 42), .ref (a 43)])), ((a 21), .inl ((ca 21), 2, .inl (fun _ => 0))), ((a 20), .inl ((ca 20), 2, .inl (fun _ => 0)))]) hD hS hA [0, 1, 2] rfl
  refine va_calli (va_runV (As := [.int (-1), .int (xs 2)]) (rest := [.int (-1)]) ⟨hx, hb, hml, hown, hts⟩ (c_9next_N l dC dI g H.size (m0) (a) (ca) ((xs 2)) hro0) (cwV 2 hts (gwV qw_522 qw_523 qw_524 qw_23 qw_521) rfl rfl rfl (by decide +kernel) ⟨Nat.le_of_ble_eq_true rfl, Nat.le_of_ble_eq_true rfl⟩) ⟨fun a U g9 mk q => ⟨q.1, q.2.1, q.2.2.1, va_K.moved (u := U) (U := U.calling g9 mk a) (Vm.Alike.refl U.vm) q.2.2.2.1, q.2.2.2.2.1, Ev.bl q.2.2.2.2.2⟩, va_recv hK hP (ci := 8) (q0 := 0) rfl rfl, fun U hU hW => ⟨rfl, by rw [hU], by rw [hU]; exact hPc, va_K.moved hW.alike hKc, hDc.weaken (fun _ _ _ _ => trivial), hE.go hS hFc hU hW⟩⟩ rfl rfl hl.1 rfl (lv_room (Nat.le_of_ble_eq_true rfl)) dL_law_868 ⟨Nat.le_of_ble_eq_true rfl, Nat.le_of_ble_eq_true rfl⟩) hS (fun q _ h => hFc q h) hFc (fun r4 u3 t H1 locs ht hvm h_u3 hB hz1 hk1 hS => ?_)
  obtain ⟨hP, hD⟩ := va_join (wr := []) (w1 := []) hP hD [0, 1, 2] [] rfl rfl (by decide) (by decide) hk1 hFc va_P0 va_D0
  generalize H1 = H at hP hS ⊢
  have hP : va_P (dC, dI) vwCl [] H := hP
  have hD : va_D A [] := hD
  refine W.widen (k := 243) (n := 7586) (Nat.le_of_ble_eq_true rfl) (Nat.le_of_ble_eq_true rfl) ?_
  have h_u3 : r4 = (-1) := h_u3
  subst h_u3
  refine lv_icmp_eq (tgt := 1311) hx hb dL_law_871 (by decide) (fun c871_5 => ?_) (fun c871_5 => by exfalso; exact absurd c871_5 (by decide))
  refine lv_iinc (v := 6) (lv' := [(4, .int 6), (3, .ref o0), (2, .ref m0), (1, .ref x0), (0, .ref b0)]) hx hb dL_law_1311 hl (k := 0) rfl (by decide) (by decide) rfl (fun ls hl => ?_)
  refine lv_goto (tgt := 23) hx hb dL_law_1314 (by decide) ?_
  refine lv_iload hx hb dL_law_23 (lv_at hl 0 rfl) ?_
  refine lv_aload_n hx hb dL_law_25 rfl (lv_at hl 4 rfl) ?_
  refine va_slen hx hb hX hbl hbA hS dL_law_26 ?_
  refine cst (v := 6) (by decide) ?_
  refine lv_bipush (v := 6) hx hb dL_law_27 (by decide) ?_
  refine lv_isub hx hb dL_law_29 ?_
  refine cst (v := 0) (by decide) ?_
  refine lv_icmp_gt (tgt := 1317) hx hb dL_law_30 (by decide) (fun c30_6 => ?_) (fun c30_6 => by exfalso; exact absurd c30_6 (by decide))
  refine lv_iconst (v := 1) hx hb dL_law_1317 (by decide) ?_
  refine va_forget (fun q h => by have h8 := hS.2.2 q h; rw [← hAe] at h8; exact h8) ?_
  refine W.widen (k := 600002) (n := 7302232) (Nat.le_of_ble_eq_true rfl) (Nat.le_of_ble_eq_true rfl) ?_
  exact lw_ret hx hb hr hlocks dL_law_1318
set_option maxHeartbeats 4000000 in
set_option maxRecDepth 100000 in
theorem law_16B {p : Program} {e : Env} {s : State} {m : MethodId} {below : List Frame} {meth : Method} {c : Code} (l : Launch) {b0 : Nat} {xs : Nat → Int32} (C0 : lw_At p s m meth c b0 6 xs) (dC : Nat → ClassId) (dI : Nat → Nat → Nat) (g : Gv) (x0 : Nat) (b : Nat → Nat) (f4 : Nat → Nat) (c4 : ClassId) (f5 : Nat → Nat) (f7 : Nat → Nat) (f6 : Nat → Nat) (f2 : Nat → Nat) (cK : ClassId) (kf : Nat → Option Nat) (cZ : ClassId) (fT : Nat → Nat) (fU : Nat → Nat) (sa : Nat → Nat) (sf : Nat → Nat → Nat) (sc : Nat → Nat → ClassId) (spf : Nat → Nat → Int32) (sdf : Nat → Nat → Int32) (slf : Nat → Nat → Int32) (srf : Nat → Nat → Int32) (sga : Nat → Nat → Option Nat) (sgb : Nat → Nat → Option Nat) (rows : va_W) (m0 : Nat) (a : Nat → Nat) (ca : Nat → ClassId) (o0 : Nat)  (hdo : ¬ (0 ≤ (xs 1).toInt ∧ (xs 1).toInt ≤ 219145)) (hm1 : (xs 1).toInt ≠ -1) {H : Heap} {locs : List Loc} {ls : Array Slot} (hK : va_K (dC, dI) vwCl [((ca 21), .int), ((ca 20), .int)] s) (hP : va_P (dC, dI) vwCl [(x0, .inr (7, [.ref (b 0), .ref (b 1), .ref (b 2), .ref (b 3), .ref (b 4), .ref (b 5), .ref (b 6), .ref (b 7), .ref (b 8), .ref (b 9), .int 1])), ((b 2), .inr (5, [.ref (f6 0), .ref (f6 1), .ref (f6 2), .ref (f6 3), .ref (f6 4), .ref (f6 5), .int 0, .int 0])), ((b 6), .inr (0, [.int 0, .ref (fT 1), .int 0, .ref (fT 3), .int 0, .ref (fT 5), .ref (fT 6), .ref (fT 7), .int 0, .ref (fT 9), .ref (fT 10), .ref (fT 11), .ref (fT 12), .ref (fT 13)])), (m0, .inr (8, [.int 0, .int 0, .int 0, .int 0, .ref (a 4), .int 0, .int 0, .int 0, .int 0, .int 0, .int 0, .long 0, .int 0, .int 0, .int 0, .int 0, .int 0, .int 0, .ref (a 18), .ref (a 19), .ref (a 20), .ref (a 21), .ref (a 22), .ref (a 23), .ref (a 24), .ref (a 25), .ref (a 26), .ref (a 27), .ref (a 28), .ref (a 29), .ref (a 30), .ref (a 31), .ref (a 32), .ref (a 33), .ref (a 34), .ref (a 35), .long 0, .int 0, .ref (a 38), .ref (a 39), .int 0, .ref (a 41), .ref (a 42), .ref (a 43)])), ((a 21), .inl ((ca 21), 2, .inl (fun _ => 0))), ((a 20), .inl ((ca 20), 2, .inl (fun _ => 0)))] H) (hD : va_D (fun q : Nat => s.heap.size ≤ q) [(x0, .inr (7, [.ref (b 0), .ref (b 1), .ref (b 2), .ref (b 3), .ref (b 4), .ref (b 5), .ref (b 6), .ref (b 7), .ref (b 8), .ref (b 9), .int 1])), ((b 2), .inr (5, [.ref (f6 0), .ref (f6 1), .ref (f6 2), .ref (f6 3), .ref (f6 4), .ref (f6 5), .int 0, .int 0])), ((b 6), .inr (0, [.int 0, .ref (fT 1), .int 0, .ref (fT 3), .int 0, .ref (fT 5), .ref (fT 6), .ref (fT 7), .int 0, .ref (fT 9), .ref (fT 10), .ref (fT 11), .ref (fT 12), .ref (fT 13)])), (m0, .inr (8, [.int 0, .int 0, .int 0, .int 0, .ref (a 4), .int 0, .int 0, .int 0, .int 0, .int 0, .int 0, .long 0, .int 0, .int 0, .int 0, .int 0, .int 0, .int 0, .ref (a 18), .ref (a 19), .ref (a 20), .ref (a 21), .ref (a 22), .ref (a 23), .ref (a 24), .ref (a 25), .ref (a 26), .ref (a 27), .ref (a 28), .ref (a 29), .ref (a 30), .ref (a 31), .ref (a 32), .ref (a 33), .ref (a 34), .ref (a 35), .long 0, .int 0, .ref (a 38), .ref (a 39), .int 0, .ref (a 41), .ref (a 42), .ref (a 43)])), ((a 21), .inl ((ca 21), 2, .inl (fun _ => 0))), ((a 20), .inl ((ca 20), 2, .inl (fun _ => 0)))]) (hS : va_S (fun q : Nat => s.heap.size ≤ q) s.heap H locs) (hE : Ev g (fun q : Nat => s.heap.size ≤ q) s) (hl : lv_has ls 7 [(4, .int 0), (3, .ref o0), (2, .ref m0), (1, .ref x0), (0, .ref b0)]) : W p l e room_1 s m #[Value.ref b0] below meth c H locs 243 7586 (lw_Z below #[Value.ref b0] s) (F0 m 839 ls []) := by
  obtain ⟨hx, hb, hr, hml, hown, hts0, hX, hbl, hlocks, hgv⟩ := id C0
  have hts := fun (w : Cond) (h : w ∈ TBL) => hts0 w (TBin w h)
  have hown : s.vm.findClass RL = some m.cls := hown
  have hN := hE.1
  have hA : ∀ q : Nat, s.heap.size ≤ q → (fun q : Nat => s.heap.size ≤ q) q := fun _ h => h
  have hbA : ¬ (fun q : Nat => s.heap.size ≤ q) b0 := Nat.not_le.mpr hbl
  generalize hAe : (fun q : Nat => s.heap.size ≤ q) = A at hD hS hE hA hbA
  refine lv_aload_n hx hb dL_law_839 rfl (lv_at hl 3 rfl) ?_
  refine lv_aload_n hx hb dL_law_840 rfl (lv_at hl 4 rfl) ?_
  refine lv_iload hx hb dL_law_841 (lv_at hl 0 rfl) ?_
  refine lv_iconst (v := 1) hx hb dL_law_843 (by decide) ?_
  refine lv_iadd hx hb dL_law_844 ?_
  refine cst (v := 1) (by decide) ?_
  refine va_sld hx hb hX hbl hbA hS (vin0 (by decide)) dL_law_845 ?_
  refine cst (v := (xs 1)) (congrArg xs (show (1 : Int32).toNatClampNeg = 1 by decide)) ?_
  refine lv_aload_n hx hb dL_law_846 rfl (lv_at hl 4 rfl) ?_
  refine lv_iload hx hb dL_law_847 (lv_at hl 0 rfl) ?_
  refine lv_iconst (v := 2) hx hb dL_law_849 (by decide) ?_
  refine lv_iadd hx hb dL_law_850 ?_
  refine cst (v := 2) (by decide) ?_
  refine va_sld hx hb hX hbl hbA hS (vin0 (by decide)) dL_law_851 ?_
  refine cst (v := (xs 2)) (congrArg xs (show (2 : Int32).toNatClampNeg = 2 by decide)) ?_
  have hPc := hP.sub (ws' := [(x0, .inr (7, [.ref (b 0), .ref (b 1), .ref (b 2), .ref (b 3), .ref (b 4), .ref (b 5), .ref (b 6), .ref (b 7), .ref (b 8), .ref (b 9), .int 1])), ((b 2), .inr (5, [.ref (f6 0), .ref (f6 1), .ref (f6 2), .ref (f6 3), .ref (f6 4), .ref (f6 5), .int 0, .int 0])), ((b 6), .inr (0, [.int 0, .ref (fT 1), .int 0, .ref (fT 3), .int 0, .ref (fT 5), .ref (fT 6), .ref (fT 7), .int 0, .ref (fT 9), .ref (fT 10), .ref (fT 11), .ref (fT 12), .ref (fT 13)]))]) [0, 1, 2] rfl
  have hKc := hK.sub (tys' := []) [] rfl
  have hDc := hD.sub (ws' := [(x0, .inr (7, [.ref (b 0), .ref (b 1), .ref (b 2), .ref (b 3), .ref (b 4), .ref (b 5), .ref (b 6), .ref (b 7), .ref (b 8), .ref (b 9), .int 1])), ((b 2), .inr (5, [.ref (f6 0), .ref (f6 1), .ref (f6 2), .ref (f6 3), .ref (f6 4), .ref (f6 5), .int 0, .int 0])), ((b 6), .inr (0, [.int 0, .ref (fT 1), .int 0, .ref (fT 3), .int 0, .ref (fT 5), .ref (fT 6), .ref (fT 7), .int 0, .ref (fT 9), .ref (fT 10), .ref (fT 11), .ref (fT 12), .ref (fT 13)]))]) [0, 1, 2] (by decide) rfl
  have hFc := va_free (wc := [(x0, .inr (7, [.ref (b 0), .ref (b 1), .ref (b 2), .ref (b 3), .ref (b 4), .ref (b 5), .ref (b 6), .ref (b 7), .ref (b 8), .ref (b 9), .int 1])), ((b 2), .inr (5, [.ref (f6 0), .ref (f6 1), .ref (f6 2), .ref (f6 3), .ref (f6 4), .ref (f6 5), .int 0, .int 0])), ((b 6), .inr (0, [.int 0, .ref (fT 1), .int 0, .ref (fT 3), .int 0, .ref (fT 5), .ref (fT 6), .ref (fT 7), .int 0, .ref (fT 9), .ref (fT 10), .ref (fT 11), .ref (fT 12), .ref (fT 13)]))]) hD hS hA [0, 1, 2] rfl
  refine va_calli (va_runV (As := [.int (xs 1), .int (xs 2)]) (rest := []) ⟨hx, hb, hml, hown, hts⟩ (c_8next_B l dC dI g H.size (x0) (b) (f4) (c4) (f5) (f7) (f6) (f2) (cK) (kf) (cZ) (fT) (fU) (sa) (sf) (sc) (spf) (sdf) (slf) (srf) (sga) (sgb) (rows) ((xs 1)) ((xs 2)) hdo hm1) (cwV 2 hts (gwV qw_518 qw_519 qw_520 qw_69 qw_517) rfl rfl rfl (by decide +kernel) ⟨Nat.le_of_ble_eq_true rfl, Nat.le_of_ble_eq_true rfl⟩) ⟨fun a U g9 mk q => ⟨q.1, q.2.1, q.2.2.1, va_K.moved (u := U) (U := U.calling g9 mk a) (Vm.Alike.refl U.vm) q.2.2.2.1, q.2.2.2.2.1, Ev.bl q.2.2.2.2.2⟩, va_recv hK hP (ci := 7) (q0 := 0) rfl rfl, fun U hU hW => ⟨rfl, by rw [hU], by rw [hU]; exact hPc, va_K.moved hW.alike hKc, hDc.weaken (fun _ _ _ _ => trivial), hE.go hS hFc hU hW⟩⟩ rfl rfl hl.1 rfl (lv_room (Nat.le_of_ble_eq_true rfl)) dL_law_852 ⟨Nat.le_of_ble_eq_true rfl, Nat.le_of_ble_eq_true rfl⟩) hS (fun q _ h => hFc q h) hFc (fun r2 u1 t H1 locs ht hvm h_u1 hB hz1 hk1 hS => ?_)
  obtain ⟨hP, hD⟩ := va_join (wr := [(m0, .inr (8, [.int 0, .int 0, .int 0, .int 0, .ref (a 4), .int 0, .int 0, .int 0, .int 0, .int 0, .int 0, .long 0, .int 0, .int 0, .int 0, .int 0, .int 0, .int 0, .ref (a 18), .ref (a 19), .ref (a 20), .ref (a 21), .ref (a 22), .ref (a 23), .ref (a 24), .ref (a 25), .ref (a 26), .ref (a 27), .ref (a 28), .ref (a 29), .ref (a 30), .ref (a 31), .ref (a 32), .ref (a 33), .ref (a 34), .ref (a 35), .long 0, .int 0, .ref (a 38), .ref (a 39), .int 0, .ref (a 41), .ref (a 42), .ref (a 43)])), ((a 21), .inl ((ca 21), 2, .inl (fun _ => 0))), ((a 20), .inl ((ca 20), 2, .inl (fun _ => 0)))]) (w1 := []) hP hD [0, 1, 2] [3, 4, 5] rfl rfl (by decide) (by decide) hk1 hFc va_P0 va_D0
  generalize H1 = H at hP hS ⊢
  have hP : va_P (dC, dI) vwCl [(m0, .inr (8, [.int 0, .int 0, .int 0, .int 0, .ref (a 4), .int 0, .int 0, .int 0, .int 0, .int 0, .int 0, .long 0, .int 0, .int 0, .int 0, .int 0, .int 0, .int 0, .ref (a 18), .ref (a 19), .ref (a 20), .ref (a 21), .ref (a 22), .ref (a 23), .ref (a 24), .ref (a 25), .ref (a 26), .ref (a 27), .ref (a 28), .ref (a 29), .ref (a 30), .ref (a 31), .ref (a 32), .ref (a 33), .ref (a 34), .ref (a 35), .long 0, .int 0, .ref (a 38), .ref (a 39), .int 0, .ref (a 41), .ref (a 42), .ref (a 43)])), ((a 21), .inl ((ca 21), 2, .inl (fun _ => 0))), ((a 20), .inl ((ca 20), 2, .inl (fun _ => 0)))] H := hP
  have hD : va_D A [(m0, .inr (8, [.int 0, .int 0, .int 0, .int 0, .ref (a 4), .int 0, .int 0, .int 0, .int 0, .int 0, .int 0, .long 0, .int 0, .int 0, .int 0, .int 0, .int 0, .int 0, .ref (a 18), .ref (a 19), .ref (a 20), .ref (a 21), .ref (a 22), .ref (a 23), .ref (a 24), .ref (a 25), .ref (a 26), .ref (a 27), .ref (a 28), .ref (a 29), .ref (a 30), .ref (a 31), .ref (a 32), .ref (a 33), .ref (a 34), .ref (a 35), .long 0, .int 0, .ref (a 38), .ref (a 39), .int 0, .ref (a 41), .ref (a 42), .ref (a 43)])), ((a 21), .inl ((ca 21), 2, .inl (fun _ => 0))), ((a 20), .inl ((ca 20), 2, .inl (fun _ => 0)))] := hD
  refine W.widen (k := 243) (n := 7586) (Nat.le_of_ble_eq_true rfl) (Nat.le_of_ble_eq_true rfl) ?_
  have h_u1 : r2 = (-1) := h_u1
  subst h_u1
  refine lv_aload_n hx hb dL_law_855 rfl (lv_at hl 2 rfl) ?_
  refine lv_aload_n hx hb dL_law_856 rfl (lv_at hl 4 rfl) ?_
  refine lv_iload hx hb dL_law_857 (lv_at hl 0 rfl) ?_
  refine lv_iconst (v := 1) hx hb dL_law_859 (by decide) ?_
  refine lv_iadd hx hb dL_law_860 ?_
  refine cst (v := 1) (by decide) ?_
  refine va_sld hx hb hX hbl hbA hS (vin0 (by decide)) dL_law_861 ?_
  refine cst (v := (xs 1)) (congrArg xs (show (1 : Int32).toNatClampNeg = 1 by decide)) ?_
  refine lv_aload_n hx hb dL_law_862 rfl (lv_at hl 4 rfl) ?_
  refine lv_iload hx hb dL_law_863 (lv_at hl 0 rfl) ?_
  refine lv_iconst (v := 2) hx hb dL_law_865 (by decide) ?_
  refine lv_iadd hx hb dL_law_866 ?_
  refine cst (v := 2) (by decide) ?_
  refine va_sld hx hb hX hbl hbA hS (vin0 (by decide)) dL_law_867 ?_
  refine cst (v := (xs 2)) (congrArg xs (show (2 : Int32).toNatClampNeg = 2 by decide)) ?_
  have hPc := hP.sub (ws' := [(m0, .inr (8, [.int 0, .int 0, .int 0, .int 0, .ref (a 4), .int 0, .int 0, .int 0, .int 0, .int 0, .int 0, .long 0, .int 0, .int 0, .int 0, .int 0, .int 0, .int 0, .ref (a 18), .ref (a 19), .ref (a 20), .ref (a 21), .ref (a 22), .ref (a 23), .ref (a 24), .ref (a 25), .ref (a 26), .ref (a 27), .ref (a 28), .ref (a 29), .ref (a 30), .ref (a 31), .ref (a 32), .ref (a 33), .ref (a 34), .ref (a 35), .long 0, .int 0, .ref (a 38), .ref (a 39), .int 0, .ref (a 41), .ref (a 42), .ref (a 43)])), ((a 21), .inl ((ca 21), 2, .inl (fun _ => 0))), ((a 20), .inl ((ca 20), 2, .inl (fun _ => 0)))]) [0, 1, 2] rfl
  have hKc := hK.sub (tys' := [((ca 21), .int), ((ca 20), .int)]) [0, 1] rfl
  have hDc := hD.sub (ws' := [(m0, .inr (8, [.int 0, .int 0, .int 0, .int 0, .ref (a 4), .int 0, .int 0, .int 0, .int 0, .int 0, .int 0, .long 0, .int 0, .int 0, .int 0, .int 0, .int 0, .int 0, .ref (a 18), .ref (a 19), .ref (a 20), .ref (a 21), .ref (a 22), .ref (a 23), .ref (a 24), .ref (a 25), .ref (a 26), .ref (a 27), .ref (a 28), .ref (a 29), .ref (a 30), .ref (a 31), .ref (a 32), .ref (a 33), .ref (a 34), .ref (a 35), .long 0, .int 0, .ref (a 38), .ref (a 39), .int 0, .ref (a 41), .ref (a 42), .ref (a 43)])), ((a 21), .inl ((ca 21), 2, .inl (fun _ => 0))), ((a 20), .inl ((ca 20), 2, .inl (fun _ => 0)))]) [0, 1, 2] (by decide) rfl
  have hFc := va_free (wc := [(m0, .inr (8, [.int 0, .int 0, .int 0, .int 0, .ref (a 4), .int 0, .int 0, .int 0, .int 0, .int 0, .int 0, .long 0, .int 0, .int 0, .int 0, .int 0, .int 0, .int 0, .ref (a 18), .ref (a 19), .ref (a 20), .ref (a 21), .ref (a 22), .ref (a 23), .ref (a 24), .ref (a 25), .ref (a 26), .ref (a 27), .ref (a 28), .ref (a 29), .ref (a 30), .ref (a 31), .ref (a 32), .ref (a 33), .ref (a 34), .ref (a 35), .long 0, .int 0, .ref (a 38), .ref (a 39), .int 0, .ref (a 41), .ref (a 42), .ref (a 43)])), ((a 21), .inl ((ca 21), 2, .inl (fun _ => 0))), ((a 20), .inl ((ca 20), 2, .inl (fun _ => 0)))]) hD hS hA [0, 1, 2] rfl
  refine va_calli (va_runV (As := [.int (xs 1), .int (xs 2)]) (rest := [.int (-1)]) ⟨hx, hb, hml, hown, hts⟩ (c_9next_B l dC dI g H.size (m0) (a) (ca) ((xs 1)) ((xs 2)) hdo hm1) (cwV 2 hts (gwV qw_522 qw_523 qw_524 qw_23 qw_521) rfl rfl rfl (by decide +kernel) ⟨Nat.le_of_ble_eq_true rfl, Nat.le_of_ble_eq_true rfl⟩) ⟨fun a U g9 mk q => ⟨q.1, q.2.1, q.2.2.1, va_K.moved (u := U) (U := U.calling g9 mk a) (Vm.Alike.refl U.vm) q.2.2.2.1, q.2.2.2.2.1, Ev.bl q.2.2.2.2.2⟩, va_recv hK hP (ci := 8) (q0 := 0) rfl rfl, fun U hU hW => ⟨rfl, by rw [hU], by rw [hU]; exact hPc, va_K.moved hW.alike hKc, hDc.weaken (fun _ _ _ _ => trivial), hE.go hS hFc hU hW⟩⟩ rfl rfl hl.1 rfl (lv_room (Nat.le_of_ble_eq_true rfl)) dL_law_868 ⟨Nat.le_of_ble_eq_true rfl, Nat.le_of_ble_eq_true rfl⟩) hS (fun q _ h => hFc q h) hFc (fun r4 u3 t H1 locs ht hvm h_u3 hB hz1 hk1 hS => ?_)
  obtain ⟨hP, hD⟩ := va_join (wr := []) (w1 := []) hP hD [0, 1, 2] [] rfl rfl (by decide) (by decide) hk1 hFc va_P0 va_D0
  generalize H1 = H at hP hS ⊢
  have hP : va_P (dC, dI) vwCl [] H := hP
  have hD : va_D A [] := hD
  refine W.widen (k := 243) (n := 7586) (Nat.le_of_ble_eq_true rfl) (Nat.le_of_ble_eq_true rfl) ?_
  have h_u3 : r4 = (-1) := h_u3
  subst h_u3
  refine lv_icmp_eq (tgt := 1311) hx hb dL_law_871 (by decide) (fun c871_5 => ?_) (fun c871_5 => by exfalso; exact absurd c871_5 (by decide))
  refine lv_iinc (v := 6) (lv' := [(4, .int 6), (3, .ref o0), (2, .ref m0), (1, .ref x0), (0, .ref b0)]) hx hb dL_law_1311 hl (k := 0) rfl (by decide) (by decide) rfl (fun ls hl => ?_)
  refine lv_goto (tgt := 23) hx hb dL_law_1314 (by decide) ?_
  refine lv_iload hx hb dL_law_23 (lv_at hl 0 rfl) ?_
  refine lv_aload_n hx hb dL_law_25 rfl (lv_at hl 4 rfl) ?_
  refine va_slen hx hb hX hbl hbA hS dL_law_26 ?_
  refine cst (v := 6) (by decide) ?_
  refine lv_bipush (v := 6) hx hb dL_law_27 (by decide) ?_
  refine lv_isub hx hb dL_law_29 ?_
  refine cst (v := 0) (by decide) ?_
  refine lv_icmp_gt (tgt := 1317) hx hb dL_law_30 (by decide) (fun c30_6 => ?_) (fun c30_6 => by exfalso; exact absurd c30_6 (by decide))
  refine lv_iconst (v := 1) hx hb dL_law_1317 (by decide) ?_
  refine va_forget (fun q h => by have h8 := hS.2.2 q h; rw [← hAe] at h8; exact h8) ?_
  refine W.widen (k := 600002) (n := 7302232) (Nat.le_of_ble_eq_true rfl) (Nat.le_of_ble_eq_true rfl) ?_
  exact lw_ret hx hb hr hlocks dL_law_1318
set_option maxHeartbeats 4000000 in
set_option maxRecDepth 100000 in
theorem law_17A {p : Program} {e : Env} {s : State} {m : MethodId} {below : List Frame} {meth : Method} {c : Code} (l : Launch) {b0 : Nat} {xs : Nat → Int32} (C0 : lw_At p s m meth c b0 6 xs) (dC : Nat → ClassId) (dI : Nat → Nat → Nat) (g : Gv) (x0 : Nat) (b : Nat → Nat) (f4 : Nat → Nat) (c4 : ClassId) (f5 : Nat → Nat) (f7 : Nat → Nat) (f6 : Nat → Nat) (f2 : Nat → Nat) (cK : ClassId) (kf : Nat → Option Nat) (cZ : ClassId) (fT : Nat → Nat) (fU : Nat → Nat) (sa : Nat → Nat) (sf : Nat → Nat → Nat) (sc : Nat → Nat → ClassId) (spf : Nat → Nat → Int32) (sdf : Nat → Nat → Int32) (slf : Nat → Nat → Int32) (srf : Nat → Nat → Int32) (sga : Nat → Nat → Option Nat) (sgb : Nat → Nat → Option Nat) (rows : va_W) (m0 : Nat) (a : Nat → Nat) (ca : Nat → ClassId) (o0 : Nat) (rn : Nat) (hq2 : xs 2 = (nI rn)) (hrn : rn ≤ 15) {H : Heap} {locs : List Loc} {ls : Array Slot} (hK : va_K (dC, dI) vwCl [((ca 21), .int), ((ca 20), .int)] s) (hP : va_P (dC, dI) vwCl [(x0, .inr (7, [.ref (b 0), .ref (b 1), .ref (b 2), .ref (b 3), .ref (b 4), .ref (b 5), .ref (b 6), .ref (b 7), .ref (b 8), .ref (b 9), .int 1])), ((b 6), .inr (0, [.int 0, .ref (fT 1), .int 0, .ref (fT 3), .int 0, .ref (fT 5), .ref (fT 6), .ref (fT 7), .int 0, .ref (fT 9), .ref (fT 10), .ref (fT 11), .ref (fT 12), .ref (fT 13)])), (m0, .inr (8, [.int 0, .int 0, .int 0, .int 0, .ref (a 4), .int 0, .int 0, .int 0, .int 0, .int 0, .int 0, .long 0, .int 0, .int 0, .int 0, .int 0, .int 0, .int 0, .ref (a 18), .ref (a 19), .ref (a 20), .ref (a 21), .ref (a 22), .ref (a 23), .ref (a 24), .ref (a 25), .ref (a 26), .ref (a 27), .ref (a 28), .ref (a 29), .ref (a 30), .ref (a 31), .ref (a 32), .ref (a 33), .ref (a 34), .ref (a 35), .long 0, .int 0, .ref (a 38), .ref (a 39), .int 0, .ref (a 41), .ref (a 42), .ref (a 43)])), ((a 21), .inl ((ca 21), 2, .inl (fun _ => 0))), ((a 20), .inl ((ca 20), 2, .inl (fun _ => 0)))] H) (hD : va_D (fun q : Nat => s.heap.size ≤ q) [(x0, .inr (7, [.ref (b 0), .ref (b 1), .ref (b 2), .ref (b 3), .ref (b 4), .ref (b 5), .ref (b 6), .ref (b 7), .ref (b 8), .ref (b 9), .int 1])), ((b 6), .inr (0, [.int 0, .ref (fT 1), .int 0, .ref (fT 3), .int 0, .ref (fT 5), .ref (fT 6), .ref (fT 7), .int 0, .ref (fT 9), .ref (fT 10), .ref (fT 11), .ref (fT 12), .ref (fT 13)])), (m0, .inr (8, [.int 0, .int 0, .int 0, .int 0, .ref (a 4), .int 0, .int 0, .int 0, .int 0, .int 0, .int 0, .long 0, .int 0, .int 0, .int 0, .int 0, .int 0, .int 0, .ref (a 18), .ref (a 19), .ref (a 20), .ref (a 21), .ref (a 22), .ref (a 23), .ref (a 24), .ref (a 25), .ref (a 26), .ref (a 27), .ref (a 28), .ref (a 29), .ref (a 30), .ref (a 31), .ref (a 32), .ref (a 33), .ref (a 34), .ref (a 35), .long 0, .int 0, .ref (a 38), .ref (a 39), .int 0, .ref (a 41), .ref (a 42), .ref (a 43)])), ((a 21), .inl ((ca 21), 2, .inl (fun _ => 0))), ((a 20), .inl ((ca 20), 2, .inl (fun _ => 0)))]) (hS : va_S (fun q : Nat => s.heap.size ≤ q) s.heap H locs) (hE : Ev g (fun q : Nat => s.heap.size ≤ q) s) (hl : lv_has ls 7 [(4, .int 0), (3, .ref o0), (2, .ref m0), (1, .ref x0), (0, .ref b0)]) : W p l e room_1 s m #[Value.ref b0] below meth c H locs 243 7586 (lw_Z below #[Value.ref b0] s) (F0 m 876 ls []) := by
  obtain ⟨hx, hb, hr, hml, hown, hts0, hX, hbl, hlocks, hgv⟩ := id C0
  have hts := fun (w : Cond) (h : w ∈ TBL) => hts0 w (TBin w h)
  have hown : s.vm.findClass RL = some m.cls := hown
  have hN := hE.1
  have hA : ∀ q : Nat, s.heap.size ≤ q → (fun q : Nat => s.heap.size ≤ q) q := fun _ h => h
  have hbA : ¬ (fun q : Nat => s.heap.size ≤ q) b0 := Nat.not_le.mpr hbl
  generalize hAe : (fun q : Nat => s.heap.size ≤ q) = A at hD hS hE hA hbA
  refine lv_aload_n hx hb dL_law_876 rfl (lv_at hl 3 rfl) ?_
  refine lv_aload_n hx hb dL_law_877 rfl (lv_at hl 4 rfl) ?_
  refine lv_iload hx hb dL_law_878 (lv_at hl 0 rfl) ?_
  refine lv_iconst (v := 1) hx hb dL_law_880 (by decide) ?_
  refine lv_iadd hx hb dL_law_881 ?_
  refine cst (v := 1) (by decide) ?_
  refine va_sld hx hb hX hbl hbA hS (vin0 (by decide)) dL_law_882 ?_
  refine cst (v := (xs 1)) (congrArg xs (show (1 : Int32).toNatClampNeg = 1 by decide)) ?_
  refine lv_aload_n hx hb dL_law_883 rfl (lv_at hl 4 rfl) ?_
  refine lv_iload hx hb dL_law_884 (lv_at hl 0 rfl) ?_
  refine lv_iconst (v := 2) hx hb dL_law_886 (by decide) ?_
  refine lv_iadd hx hb dL_law_887 ?_
  refine cst (v := 2) (by decide) ?_
  refine va_sld hx hb hX hbl hbA hS (vin0 (by decide)) dL_law_888 ?_
  refine cst (v := (nI rn)) ((congrArg xs (show (2 : Int32).toNatClampNeg = 2 by decide)).trans hq2) ?_
  have hPc := hP.sub (ws' := [(x0, .inr (7, [.ref (b 0), .ref (b 1), .ref (b 2), .ref (b 3), .ref (b 4), .ref (b 5), .ref (b 6), .ref (b 7), .ref (b 8), .ref (b 9), .int 1])), ((b 6), .inr (0, [.int 0, .ref (fT 1), .int 0, .ref (fT 3), .int 0, .ref (fT 5), .ref (fT 6), .ref (fT 7), .int 0, .ref (fT 9), .ref (fT 10), .ref (fT 11), .ref (fT 12), .ref (fT 13)]))]) [0, 1] rfl
  have hKc := hK.sub (tys' := []) [] rfl
  refine vp_callSi ((va_runV (As := [.int (xs 1), .int (nI rn)]) (rest := []) ⟨hx, hb, hml, hown, hts⟩ (c_8listed l dC dI g (x0) (b) (f4) (c4) (f5) (f7) (f6) (f2) (cK) (kf) (cZ) (fT) (fU) (sa) (sf) (sc) (spf) (sdf) (slf) (srf) (sga) (sgb) (rows) ((xs 1)) ((nI rn)) ) (cwV 2 hts (gwV qw_526 qw_527 qw_528 qw_69 qw_525) rfl rfl rfl (by decide +kernel) ⟨Nat.le_of_ble_eq_true rfl, Nat.le_of_ble_eq_true rfl⟩) ⟨fun a U g9 mk q => ⟨q.1, q.2.1, va_K.moved (u := U) (U := U.calling g9 mk a) (Vm.Alike.refl U.vm) q.2.2.1, Ev.bl q.2.2.2⟩, va_recv hK hP (ci := 7) (q0 := 0) rfl rfl, fun U hU hW => ⟨rfl, by rw [hU]; exact hPc, va_K.moved hW.alike hKc, hE.go hS (fun _ h => h.elim) hU hW⟩⟩ rfl rfl hl.1 rfl (lv_room (Nat.le_of_ble_eq_true rfl)) dL_law_889 ⟨Nat.le_of_ble_eq_true rfl, Nat.le_of_ble_eq_true rfl⟩)).run (fun r1 h_r1 => ?_)
  have h_r1 : r1 = (-1) := h_r1
  subst h_r1
  refine lv_aload_n hx hb dL_law_892 rfl (lv_at hl 2 rfl) ?_
  refine lv_aload_n hx hb dL_law_893 rfl (lv_at hl 4 rfl) ?_
  refine lv_iload hx hb dL_law_894 (lv_at hl 0 rfl) ?_
  refine lv_iconst (v := 1) hx hb dL_law_896 (by decide) ?_
  refine lv_iadd hx hb dL_law_897 ?_
  refine cst (v := 1) (by decide) ?_
  refine va_sld hx hb hX hbl hbA hS (vin0 (by decide)) dL_law_898 ?_
  refine cst (v := (xs 1)) (congrArg xs (show (1 : Int32).toNatClampNeg = 1 by decide)) ?_
  refine lv_aload_n hx hb dL_law_899 rfl (lv_at hl 4 rfl) ?_
  refine lv_iload hx hb dL_law_900 (lv_at hl 0 rfl) ?_
  refine lv_iconst (v := 2) hx hb dL_law_902 (by decide) ?_
  refine lv_iadd hx hb dL_law_903 ?_
  refine cst (v := 2) (by decide) ?_
  refine va_sld hx hb hX hbl hbA hS (vin0 (by decide)) dL_law_904 ?_
  refine cst (v := (nI rn)) ((congrArg xs (show (2 : Int32).toNatClampNeg = 2 by decide)).trans hq2) ?_
  have hPc := hP.sub (ws' := [(m0, .inr (8, [.int 0, .int 0, .int 0, .int 0, .ref (a 4), .int 0, .int 0, .int 0, .int 0, .int 0, .int 0, .long 0, .int 0, .int 0, .int 0, .int 0, .int 0, .int 0, .ref (a 18), .ref (a 19), .ref (a 20), .ref (a 21), .ref (a 22), .ref (a 23), .ref (a 24), .ref (a 25), .ref (a 26), .ref (a 27), .ref (a 28), .ref (a 29), .ref (a 30), .ref (a 31), .ref (a 32), .ref (a 33), .ref (a 34), .ref (a 35), .long 0, .int 0, .ref (a 38), .ref (a 39), .int 0, .ref (a 41), .ref (a 42), .ref (a 43)])), ((a 21), .inl ((ca 21), 2, .inl (fun _ => 0))), ((a 20), .inl ((ca 20), 2, .inl (fun _ => 0)))]) [2, 3, 4] rfl
  have hKc := hK.sub (tys' := [((ca 21), .int), ((ca 20), .int)]) [0, 1] rfl
  have hDc := hD.sub (ws' := [(m0, .inr (8, [.int 0, .int 0, .int 0, .int 0, .ref (a 4), .int 0, .int 0, .int 0, .int 0, .int 0, .int 0, .long 0, .int 0, .int 0, .int 0, .int 0, .int 0, .int 0, .ref (a 18), .ref (a 19), .ref (a 20), .ref (a 21), .ref (a 22), .ref (a 23), .ref (a 24), .ref (a 25), .ref (a 26), .ref (a 27), .ref (a 28), .ref (a 29), .ref (a 30), .ref (a 31), .ref (a 32), .ref (a 33), .ref (a 34), .ref (a 35), .long 0, .int 0, .ref (a 38), .ref (a 39), .int 0, .ref (a 41), .ref (a 42), .ref (a 43)])), ((a 21), .inl ((ca 21), 2, .inl (fun _ => 0))), ((a 20), .inl ((ca 20), 2, .inl (fun _ => 0)))]) [2, 3, 4] (by decide) rfl
  have hFc := va_free (wc := [(m0, .inr (8, [.int 0, .int 0, .int 0, .int 0, .ref (a 4), .int 0, .int 0, .int 0, .int 0, .int 0, .int 0, .long 0, .int 0, .int 0, .int 0, .int 0, .int 0, .int 0, .ref (a 18), .ref (a 19), .ref (a 20), .ref (a 21), .ref (a 22), .ref (a 23), .ref (a 24), .ref (a 25), .ref (a 26), .ref (a 27), .ref (a 28), .ref (a 29), .ref (a 30), .ref (a 31), .ref (a 32), .ref (a 33), .ref (a 34), .ref (a 35), .long 0, .int 0, .ref (a 38), .ref (a 39), .int 0, .ref (a 41), .ref (a 42), .ref (a 43)])), ((a 21), .inl ((ca 21), 2, .inl (fun _ => 0))), ((a 20), .inl ((ca 20), 2, .inl (fun _ => 0)))]) hD hS hA [2, 3, 4] rfl
  refine va_calli (va_runV (As := [.int (xs 1), .int (nI rn)]) (rest := [.int (-1)]) ⟨hx, hb, hml, hown, hts⟩ (c_9listed_A l dC dI g H.size (m0) (a) (ca) ((xs 1)) (rn) hrn) (cwV 2 hts (gwV qw_530 qw_531 qw_532 qw_23 qw_529) rfl rfl rfl (by decide +kernel) ⟨Nat.le_of_ble_eq_true rfl, Nat.le_of_ble_eq_true rfl⟩) ⟨fun a U g9 mk q => ⟨q.1, q.2.1, q.2.2.1, va_K.moved (u := U) (U := U.calling g9 mk a) (Vm.Alike.refl U.vm) q.2.2.2.1, q.2.2.2.2.1, Ev.bl q.2.2.2.2.2⟩, va_recv hK hP (ci := 8) (q0 := 2) rfl rfl, fun U hU hW => ⟨rfl, by rw [hU], by rw [hU]; exact hPc, va_K.moved hW.alike hKc, hDc.weaken (fun _ _ _ _ => trivial), hE.go hS hFc hU hW⟩⟩ rfl rfl hl.1 rfl (lv_room (Nat.le_of_ble_eq_true rfl)) dL_law_905 ⟨Nat.le_of_ble_eq_true rfl, Nat.le_of_ble_eq_true rfl⟩) hS (fun q _ h => hFc q h) hFc (fun r3 u2 t H1 locs ht hvm h_u2 hB hz1 hk1 hS => ?_)
  obtain ⟨hP, hD⟩ := va_join (wr := [(x0, .inr (7, [.ref (b 0), .ref (b 1), .ref (b 2), .ref (b 3), .ref (b 4), .ref (b 5), .ref (b 6), .ref (b 7), .ref (b 8), .ref (b 9), .int 1])), ((b 6), .inr (0, [.int 0, .ref (fT 1), .int 0, .ref (fT 3), .int 0, .ref (fT 5), .ref (fT 6), .ref (fT 7), .int 0, .ref (fT 9), .ref (fT 10), .ref (fT 11), .ref (fT 12), .ref (fT 13)]))]) (w1 := []) hP hD [2, 3, 4] [0, 1] rfl rfl (by decide) (by decide) hk1 hFc va_P0 va_D0
  generalize H1 = H at hP hS ⊢
  have hP : va_P (dC, dI) vwCl [(x0, .inr (7, [.ref (b 0), .ref (b 1), .ref (b 2), .ref (b 3), .ref (b 4), .ref (b 5), .ref (b 6), .ref (b 7), .ref (b 8), .ref (b 9), .int 1])), ((b 6), .inr (0, [.int 0, .ref (fT 1), .int 0, .ref (fT 3), .int 0, .ref (fT 5), .ref (fT 6), .ref (fT 7), .int 0, .ref (fT 9), .ref (fT 10), .ref (fT 11), .ref (fT 12), .ref (fT 13)]))] H := hP
  have hD : va_D A [(x0, .inr (7, [.ref (b 0), .ref (b 1), .ref (b 2), .ref (b 3), .ref (b 4), .ref (b 5), .ref (b 6), .ref (b 7), .ref (b 8), .ref (b 9), .int 1])), ((b 6), .inr (0, [.int 0, .ref (fT 1), .int 0, .ref (fT 3), .int 0, .ref (fT 5), .ref (fT 6), .ref (fT 7), .int 0, .ref (fT 9), .ref (fT 10), .ref (fT 11), .ref (fT 12), .ref (fT 13)]))] := hD
  refine W.widen (k := 243) (n := 7586) (Nat.le_of_ble_eq_true rfl) (Nat.le_of_ble_eq_true rfl) ?_
  have h_u2 : r3 = (-1) := h_u2
  subst h_u2
  refine lv_icmp_eq (tgt := 1311) hx hb dL_law_908 (by decide) (fun c908_4 => ?_) (fun c908_4 => by exfalso; exact absurd c908_4 (by decide))
  refine lv_iinc (v := 6) (lv' := [(4, .int 6), (3, .ref o0), (2, .ref m0), (1, .ref x0), (0, .ref b0)]) hx hb dL_law_1311 hl (k := 0) rfl (by decide) (by decide) rfl (fun ls hl => ?_)
  refine lv_goto (tgt := 23) hx hb dL_law_1314 (by decide) ?_
  refine lv_iload hx hb dL_law_23 (lv_at hl 0 rfl) ?_
  refine lv_aload_n hx hb dL_law_25 rfl (lv_at hl 4 rfl) ?_
  refine va_slen hx hb hX hbl hbA hS dL_law_26 ?_
  refine cst (v := 6) (by decide) ?_
  refine lv_bipush (v := 6) hx hb dL_law_27 (by decide) ?_
  refine lv_isub hx hb dL_law_29 ?_
  refine cst (v := 0) (by decide) ?_
  refine lv_icmp_gt (tgt := 1317) hx hb dL_law_30 (by decide) (fun c30_5 => ?_) (fun c30_5 => by exfalso; exact absurd c30_5 (by decide))
  refine lv_iconst (v := 1) hx hb dL_law_1317 (by decide) ?_
  refine va_forget (fun q h => by have h8 := hS.2.2 q h; rw [← hAe] at h8; exact h8) ?_
  refine W.widen (k := 600002) (n := 7302232) (Nat.le_of_ble_eq_true rfl) (Nat.le_of_ble_eq_true rfl) ?_
  exact lw_ret hx hb hr hlocks dL_law_1318
set_option maxHeartbeats 4000000 in
set_option maxRecDepth 100000 in
theorem law_17B {p : Program} {e : Env} {s : State} {m : MethodId} {below : List Frame} {meth : Method} {c : Code} (l : Launch) {b0 : Nat} {xs : Nat → Int32} (C0 : lw_At p s m meth c b0 6 xs) (dC : Nat → ClassId) (dI : Nat → Nat → Nat) (g : Gv) (x0 : Nat) (b : Nat → Nat) (f4 : Nat → Nat) (c4 : ClassId) (f5 : Nat → Nat) (f7 : Nat → Nat) (f6 : Nat → Nat) (f2 : Nat → Nat) (cK : ClassId) (kf : Nat → Option Nat) (cZ : ClassId) (fT : Nat → Nat) (fU : Nat → Nat) (sa : Nat → Nat) (sf : Nat → Nat → Nat) (sc : Nat → Nat → ClassId) (spf : Nat → Nat → Int32) (sdf : Nat → Nat → Int32) (slf : Nat → Nat → Int32) (srf : Nat → Nat → Int32) (sga : Nat → Nat → Option Nat) (sgb : Nat → Nat → Option Nat) (rows : va_W) (m0 : Nat) (a : Nat → Nat) (ca : Nat → ClassId) (o0 : Nat)  (hro0 : ¬ (0 ≤ (xs 2).toInt ∧ (xs 2).toInt ≤ 15)) {H : Heap} {locs : List Loc} {ls : Array Slot} (hK : va_K (dC, dI) vwCl [((ca 21), .int), ((ca 20), .int)] s) (hP : va_P (dC, dI) vwCl [(x0, .inr (7, [.ref (b 0), .ref (b 1), .ref (b 2), .ref (b 3), .ref (b 4), .ref (b 5), .ref (b 6), .ref (b 7), .ref (b 8), .ref (b 9), .int 1])), ((b 6), .inr (0, [.int 0, .ref (fT 1), .int 0, .ref (fT 3), .int 0, .ref (fT 5), .ref (fT 6), .ref (fT 7), .int 0, .ref (fT 9), .ref (fT 10), .ref (fT 11), .ref (fT 12), .ref (fT 13)])), (m0, .inr (8, [.int 0, .int 0, .int 0, .int 0, .ref (a 4), .int 0, .int 0, .int 0, .int 0, .int 0, .int 0, .long 0, .int 0, .int 0, .int 0, .int 0, .int 0, .int 0, .ref (a 18), .ref (a 19), .ref (a 20), .ref (a 21), .ref (a 22), .ref (a 23), .ref (a 24), .ref (a 25), .ref (a 26), .ref (a 27), .ref (a 28), .ref (a 29), .ref (a 30), .ref (a 31), .ref (a 32), .ref (a 33), .ref (a 34), .ref (a 35), .long 0, .int 0, .ref (a 38), .ref (a 39), .int 0, .ref (a 41), .ref (a 42), .ref (a 43)])), ((a 21), .inl ((ca 21), 2, .inl (fun _ => 0))), ((a 20), .inl ((ca 20), 2, .inl (fun _ => 0)))] H) (hD : va_D (fun q : Nat => s.heap.size ≤ q) [(x0, .inr (7, [.ref (b 0), .ref (b 1), .ref (b 2), .ref (b 3), .ref (b 4), .ref (b 5), .ref (b 6), .ref (b 7), .ref (b 8), .ref (b 9), .int 1])), ((b 6), .inr (0, [.int 0, .ref (fT 1), .int 0, .ref (fT 3), .int 0, .ref (fT 5), .ref (fT 6), .ref (fT 7), .int 0, .ref (fT 9), .ref (fT 10), .ref (fT 11), .ref (fT 12), .ref (fT 13)])), (m0, .inr (8, [.int 0, .int 0, .int 0, .int 0, .ref (a 4), .int 0, .int 0, .int 0, .int 0, .int 0, .int 0, .long 0, .int 0, .int 0, .int 0, .int 0, .int 0, .int 0, .ref (a 18), .ref (a 19), .ref (a 20), .ref (a 21), .ref (a 22), .ref (a 23), .ref (a 24), .ref (a 25), .ref (a 26), .ref (a 27), .ref (a 28), .ref (a 29), .ref (a 30), .ref (a 31), .ref (a 32), .ref (a 33), .ref (a 34), .ref (a 35), .long 0, .int 0, .ref (a 38), .ref (a 39), .int 0, .ref (a 41), .ref (a 42), .ref (a 43)])), ((a 21), .inl ((ca 21), 2, .inl (fun _ => 0))), ((a 20), .inl ((ca 20), 2, .inl (fun _ => 0)))]) (hS : va_S (fun q : Nat => s.heap.size ≤ q) s.heap H locs) (hE : Ev g (fun q : Nat => s.heap.size ≤ q) s) (hl : lv_has ls 7 [(4, .int 0), (3, .ref o0), (2, .ref m0), (1, .ref x0), (0, .ref b0)]) : W p l e room_1 s m #[Value.ref b0] below meth c H locs 243 7586 (lw_Z below #[Value.ref b0] s) (F0 m 876 ls []) := by
  obtain ⟨hx, hb, hr, hml, hown, hts0, hX, hbl, hlocks, hgv⟩ := id C0
  have hts := fun (w : Cond) (h : w ∈ TBL) => hts0 w (TBin w h)
  have hown : s.vm.findClass RL = some m.cls := hown
  have hN := hE.1
  have hA : ∀ q : Nat, s.heap.size ≤ q → (fun q : Nat => s.heap.size ≤ q) q := fun _ h => h
  have hbA : ¬ (fun q : Nat => s.heap.size ≤ q) b0 := Nat.not_le.mpr hbl
  generalize hAe : (fun q : Nat => s.heap.size ≤ q) = A at hD hS hE hA hbA
  refine lv_aload_n hx hb dL_law_876 rfl (lv_at hl 3 rfl) ?_
  refine lv_aload_n hx hb dL_law_877 rfl (lv_at hl 4 rfl) ?_
  refine lv_iload hx hb dL_law_878 (lv_at hl 0 rfl) ?_
  refine lv_iconst (v := 1) hx hb dL_law_880 (by decide) ?_
  refine lv_iadd hx hb dL_law_881 ?_
  refine cst (v := 1) (by decide) ?_
  refine va_sld hx hb hX hbl hbA hS (vin0 (by decide)) dL_law_882 ?_
  refine cst (v := (xs 1)) (congrArg xs (show (1 : Int32).toNatClampNeg = 1 by decide)) ?_
  refine lv_aload_n hx hb dL_law_883 rfl (lv_at hl 4 rfl) ?_
  refine lv_iload hx hb dL_law_884 (lv_at hl 0 rfl) ?_
  refine lv_iconst (v := 2) hx hb dL_law_886 (by decide) ?_
  refine lv_iadd hx hb dL_law_887 ?_
  refine cst (v := 2) (by decide) ?_
  refine va_sld hx hb hX hbl hbA hS (vin0 (by decide)) dL_law_888 ?_
  refine cst (v := (xs 2)) (congrArg xs (show (2 : Int32).toNatClampNeg = 2 by decide)) ?_
  have hPc := hP.sub (ws' := [(x0, .inr (7, [.ref (b 0), .ref (b 1), .ref (b 2), .ref (b 3), .ref (b 4), .ref (b 5), .ref (b 6), .ref (b 7), .ref (b 8), .ref (b 9), .int 1])), ((b 6), .inr (0, [.int 0, .ref (fT 1), .int 0, .ref (fT 3), .int 0, .ref (fT 5), .ref (fT 6), .ref (fT 7), .int 0, .ref (fT 9), .ref (fT 10), .ref (fT 11), .ref (fT 12), .ref (fT 13)]))]) [0, 1] rfl
  have hKc := hK.sub (tys' := []) [] rfl
  refine vp_callSi ((va_runV (As := [.int (xs 1), .int (xs 2)]) (rest := []) ⟨hx, hb, hml, hown, hts⟩ (c_8listed l dC dI g (x0) (b) (f4) (c4) (f5) (f7) (f6) (f2) (cK) (kf) (cZ) (fT) (fU) (sa) (sf) (sc) (spf) (sdf) (slf) (srf) (sga) (sgb) (rows) ((xs 1)) ((xs 2)) ) (cwV 2 hts (gwV qw_526 qw_527 qw_528 qw_69 qw_525) rfl rfl rfl (by decide +kernel) ⟨Nat.le_of_ble_eq_true rfl, Nat.le_of_ble_eq_true rfl⟩) ⟨fun a U g9 mk q => ⟨q.1, q.2.1, va_K.moved (u := U) (U := U.calling g9 mk a) (Vm.Alike.refl U.vm) q.2.2.1, Ev.bl q.2.2.2⟩, va_recv hK hP (ci := 7) (q0 := 0) rfl rfl, fun U hU hW => ⟨rfl, by rw [hU]; exact hPc, va_K.moved hW.alike hKc, hE.go hS (fun _ h => h.elim) hU hW⟩⟩ rfl rfl hl.1 rfl (lv_room (Nat.le_of_ble_eq_true rfl)) dL_law_889 ⟨Nat.le_of_ble_eq_true rfl, Nat.le_of_ble_eq_true rfl⟩)).run (fun r1 h_r1 => ?_)
  have h_r1 : r1 = (-1) := h_r1
  subst h_r1
  refine lv_aload_n hx hb dL_law_892 rfl (lv_at hl 2 rfl) ?_
  refine lv_aload_n hx hb dL_law_893 rfl (lv_at hl 4 rfl) ?_
  refine lv_iload hx hb dL_law_894 (lv_at hl 0 rfl) ?_
  refine lv_iconst (v := 1) hx hb dL_law_896 (by decide) ?_
  refine lv_iadd hx hb dL_law_897 ?_
  refine cst (v := 1) (by decide) ?_
  refine va_sld hx hb hX hbl hbA hS (vin0 (by decide)) dL_law_898 ?_
  refine cst (v := (xs 1)) (congrArg xs (show (1 : Int32).toNatClampNeg = 1 by decide)) ?_
  refine lv_aload_n hx hb dL_law_899 rfl (lv_at hl 4 rfl) ?_
  refine lv_iload hx hb dL_law_900 (lv_at hl 0 rfl) ?_
  refine lv_iconst (v := 2) hx hb dL_law_902 (by decide) ?_
  refine lv_iadd hx hb dL_law_903 ?_
  refine cst (v := 2) (by decide) ?_
  refine va_sld hx hb hX hbl hbA hS (vin0 (by decide)) dL_law_904 ?_
  refine cst (v := (xs 2)) (congrArg xs (show (2 : Int32).toNatClampNeg = 2 by decide)) ?_
  have hPc := hP.sub (ws' := [(m0, .inr (8, [.int 0, .int 0, .int 0, .int 0, .ref (a 4), .int 0, .int 0, .int 0, .int 0, .int 0, .int 0, .long 0, .int 0, .int 0, .int 0, .int 0, .int 0, .int 0, .ref (a 18), .ref (a 19), .ref (a 20), .ref (a 21), .ref (a 22), .ref (a 23), .ref (a 24), .ref (a 25), .ref (a 26), .ref (a 27), .ref (a 28), .ref (a 29), .ref (a 30), .ref (a 31), .ref (a 32), .ref (a 33), .ref (a 34), .ref (a 35), .long 0, .int 0, .ref (a 38), .ref (a 39), .int 0, .ref (a 41), .ref (a 42), .ref (a 43)])), ((a 21), .inl ((ca 21), 2, .inl (fun _ => 0))), ((a 20), .inl ((ca 20), 2, .inl (fun _ => 0)))]) [2, 3, 4] rfl
  have hKc := hK.sub (tys' := [((ca 21), .int), ((ca 20), .int)]) [0, 1] rfl
  have hDc := hD.sub (ws' := [(m0, .inr (8, [.int 0, .int 0, .int 0, .int 0, .ref (a 4), .int 0, .int 0, .int 0, .int 0, .int 0, .int 0, .long 0, .int 0, .int 0, .int 0, .int 0, .int 0, .int 0, .ref (a 18), .ref (a 19), .ref (a 20), .ref (a 21), .ref (a 22), .ref (a 23), .ref (a 24), .ref (a 25), .ref (a 26), .ref (a 27), .ref (a 28), .ref (a 29), .ref (a 30), .ref (a 31), .ref (a 32), .ref (a 33), .ref (a 34), .ref (a 35), .long 0, .int 0, .ref (a 38), .ref (a 39), .int 0, .ref (a 41), .ref (a 42), .ref (a 43)])), ((a 21), .inl ((ca 21), 2, .inl (fun _ => 0))), ((a 20), .inl ((ca 20), 2, .inl (fun _ => 0)))]) [2, 3, 4] (by decide) rfl
  have hFc := va_free (wc := [(m0, .inr (8, [.int 0, .int 0, .int 0, .int 0, .ref (a 4), .int 0, .int 0, .int 0, .int 0, .int 0, .int 0, .long 0, .int 0, .int 0, .int 0, .int 0, .int 0, .int 0, .ref (a 18), .ref (a 19), .ref (a 20), .ref (a 21), .ref (a 22), .ref (a 23), .ref (a 24), .ref (a 25), .ref (a 26), .ref (a 27), .ref (a 28), .ref (a 29), .ref (a 30), .ref (a 31), .ref (a 32), .ref (a 33), .ref (a 34), .ref (a 35), .long 0, .int 0, .ref (a 38), .ref (a 39), .int 0, .ref (a 41), .ref (a 42), .ref (a 43)])), ((a 21), .inl ((ca 21), 2, .inl (fun _ => 0))), ((a 20), .inl ((ca 20), 2, .inl (fun _ => 0)))]) hD hS hA [2, 3, 4] rfl
  refine va_calli (va_runV (As := [.int (xs 1), .int (xs 2)]) (rest := [.int (-1)]) ⟨hx, hb, hml, hown, hts⟩ (c_9listed_B l dC dI g H.size (m0) (a) (ca) ((xs 1)) ((xs 2)) hro0) (cwV 2 hts (gwV qw_530 qw_531 qw_532 qw_23 qw_529) rfl rfl rfl (by decide +kernel) ⟨Nat.le_of_ble_eq_true rfl, Nat.le_of_ble_eq_true rfl⟩) ⟨fun a U g9 mk q => ⟨q.1, q.2.1, q.2.2.1, va_K.moved (u := U) (U := U.calling g9 mk a) (Vm.Alike.refl U.vm) q.2.2.2.1, q.2.2.2.2.1, Ev.bl q.2.2.2.2.2⟩, va_recv hK hP (ci := 8) (q0 := 2) rfl rfl, fun U hU hW => ⟨rfl, by rw [hU], by rw [hU]; exact hPc, va_K.moved hW.alike hKc, hDc.weaken (fun _ _ _ _ => trivial), hE.go hS hFc hU hW⟩⟩ rfl rfl hl.1 rfl (lv_room (Nat.le_of_ble_eq_true rfl)) dL_law_905 ⟨Nat.le_of_ble_eq_true rfl, Nat.le_of_ble_eq_true rfl⟩) hS (fun q _ h => hFc q h) hFc (fun r3 u2 t H1 locs ht hvm h_u2 hB hz1 hk1 hS => ?_)
  obtain ⟨hP, hD⟩ := va_join (wr := [(x0, .inr (7, [.ref (b 0), .ref (b 1), .ref (b 2), .ref (b 3), .ref (b 4), .ref (b 5), .ref (b 6), .ref (b 7), .ref (b 8), .ref (b 9), .int 1])), ((b 6), .inr (0, [.int 0, .ref (fT 1), .int 0, .ref (fT 3), .int 0, .ref (fT 5), .ref (fT 6), .ref (fT 7), .int 0, .ref (fT 9), .ref (fT 10), .ref (fT 11), .ref (fT 12), .ref (fT 13)]))]) (w1 := []) hP hD [2, 3, 4] [0, 1] rfl rfl (by decide) (by decide) hk1 hFc va_P0 va_D0
  generalize H1 = H at hP hS ⊢
  have hP : va_P (dC, dI) vwCl [(x0, .inr (7, [.ref (b 0), .ref (b 1), .ref (b 2), .ref (b 3), .ref (b 4), .ref (b 5), .ref (b 6), .ref (b 7), .ref (b 8), .ref (b 9), .int 1])), ((b 6), .inr (0, [.int 0, .ref (fT 1), .int 0, .ref (fT 3), .int 0, .ref (fT 5), .ref (fT 6), .ref (fT 7), .int 0, .ref (fT 9), .ref (fT 10), .ref (fT 11), .ref (fT 12), .ref (fT 13)]))] H := hP
  have hD : va_D A [(x0, .inr (7, [.ref (b 0), .ref (b 1), .ref (b 2), .ref (b 3), .ref (b 4), .ref (b 5), .ref (b 6), .ref (b 7), .ref (b 8), .ref (b 9), .int 1])), ((b 6), .inr (0, [.int 0, .ref (fT 1), .int 0, .ref (fT 3), .int 0, .ref (fT 5), .ref (fT 6), .ref (fT 7), .int 0, .ref (fT 9), .ref (fT 10), .ref (fT 11), .ref (fT 12), .ref (fT 13)]))] := hD
  refine W.widen (k := 243) (n := 7586) (Nat.le_of_ble_eq_true rfl) (Nat.le_of_ble_eq_true rfl) ?_
  have h_u2 : r3 = (-1) := h_u2
  subst h_u2
  refine lv_icmp_eq (tgt := 1311) hx hb dL_law_908 (by decide) (fun c908_4 => ?_) (fun c908_4 => by exfalso; exact absurd c908_4 (by decide))
  refine lv_iinc (v := 6) (lv' := [(4, .int 6), (3, .ref o0), (2, .ref m0), (1, .ref x0), (0, .ref b0)]) hx hb dL_law_1311 hl (k := 0) rfl (by decide) (by decide) rfl (fun ls hl => ?_)
  refine lv_goto (tgt := 23) hx hb dL_law_1314 (by decide) ?_
  refine lv_iload hx hb dL_law_23 (lv_at hl 0 rfl) ?_
  refine lv_aload_n hx hb dL_law_25 rfl (lv_at hl 4 rfl) ?_
  refine va_slen hx hb hX hbl hbA hS dL_law_26 ?_
  refine cst (v := 6) (by decide) ?_
  refine lv_bipush (v := 6) hx hb dL_law_27 (by decide) ?_
  refine lv_isub hx hb dL_law_29 ?_
  refine cst (v := 0) (by decide) ?_
  refine lv_icmp_gt (tgt := 1317) hx hb dL_law_30 (by decide) (fun c30_5 => ?_) (fun c30_5 => by exfalso; exact absurd c30_5 (by decide))
  refine lv_iconst (v := 1) hx hb dL_law_1317 (by decide) ?_
  refine va_forget (fun q h => by have h8 := hS.2.2 q h; rw [← hAe] at h8; exact h8) ?_
  refine W.widen (k := 600002) (n := 7302232) (Nat.le_of_ble_eq_true rfl) (Nat.le_of_ble_eq_true rfl) ?_
  exact lw_ret hx hb hr hlocks dL_law_1318
set_option maxHeartbeats 4000000 in
set_option maxRecDepth 100000 in
theorem law_18 {p : Program} {e : Env} {s : State} {m : MethodId} {below : List Frame} {meth : Method} {c : Code} (l : Launch) {b0 : Nat} {xs : Nat → Int32} (C0 : lw_At p s m meth c b0 6 xs) (dC : Nat → ClassId) (dI : Nat → Nat → Nat) (g : Gv) (x0 : Nat) (b : Nat → Nat) (f4 : Nat → Nat) (c4 : ClassId) (f5 : Nat → Nat) (f7 : Nat → Nat) (f6 : Nat → Nat) (f2 : Nat → Nat) (cK : ClassId) (kf : Nat → Option Nat) (cZ : ClassId) (fT : Nat → Nat) (fU : Nat → Nat) (sa : Nat → Nat) (sf : Nat → Nat → Nat) (sc : Nat → Nat → ClassId) (spf : Nat → Nat → Int32) (sdf : Nat → Nat → Int32) (slf : Nat → Nat → Int32) (srf : Nat → Nat → Int32) (sga : Nat → Nat → Option Nat) (sgb : Nat → Nat → Option Nat) (rows : va_W) (m0 : Nat) (a : Nat → Nat) (ca : Nat → ClassId) (o0 : Nat)   {H : Heap} {locs : List Loc} {ls : Array Slot} (hK : va_K (dC, dI) vwCl [((ca 20), .int)] s) (hP : va_P (dC, dI) vwCl [(x0, .inr (7, [.ref (b 0), .ref (b 1), .ref (b 2), .ref (b 3), .ref (b 4), .ref (b 5), .ref (b 6), .ref (b 7), .ref (b 8), .ref (b 9), .int 1])), ((b 6), .inr (0, [.int 0, .ref (fT 1), .int 0, .ref (fT 3), .int 0, .ref (fT 5), .ref (fT 6), .ref (fT 7), .int 0, .ref (fT 9), .ref (fT 10), .ref (fT 11), .ref (fT 12), .ref (fT 13)])), (m0, .inr (8, [.int 0, .int 0, .int 0, .int 0, .ref (a 4), .int 0, .int 0, .int 0, .int 0, .int 0, .int 0, .long 0, .int 0, .int 0, .int 0, .int 0, .int 0, .int 0, .ref (a 18), .ref (a 19), .ref (a 20), .ref (a 21), .ref (a 22), .ref (a 23), .ref (a 24), .ref (a 25), .ref (a 26), .ref (a 27), .ref (a 28), .ref (a 29), .ref (a 30), .ref (a 31), .ref (a 32), .ref (a 33), .ref (a 34), .ref (a 35), .long 0, .int 0, .ref (a 38), .ref (a 39), .int 0, .ref (a 41), .ref (a 42), .ref (a 43)])), ((a 20), .inl ((ca 20), 2, .inl (fun _ => 0)))] H) (hD : va_D (fun q : Nat => s.heap.size ≤ q) [(x0, .inr (7, [.ref (b 0), .ref (b 1), .ref (b 2), .ref (b 3), .ref (b 4), .ref (b 5), .ref (b 6), .ref (b 7), .ref (b 8), .ref (b 9), .int 1])), ((b 6), .inr (0, [.int 0, .ref (fT 1), .int 0, .ref (fT 3), .int 0, .ref (fT 5), .ref (fT 6), .ref (fT 7), .int 0, .ref (fT 9), .ref (fT 10), .ref (fT 11), .ref (fT 12), .ref (fT 13)])), (m0, .inr (8, [.int 0, .int 0, .int 0, .int 0, .ref (a 4), .int 0, .int 0, .int 0, .int 0, .int 0, .int 0, .long 0, .int 0, .int 0, .int 0, .int 0, .int 0, .int 0, .ref (a 18), .ref (a 19), .ref (a 20), .ref (a 21), .ref (a 22), .ref (a 23), .ref (a 24), .ref (a 25), .ref (a 26), .ref (a 27), .ref (a 28), .ref (a 29), .ref (a 30), .ref (a 31), .ref (a 32), .ref (a 33), .ref (a 34), .ref (a 35), .long 0, .int 0, .ref (a 38), .ref (a 39), .int 0, .ref (a 41), .ref (a 42), .ref (a 43)])), ((a 20), .inl ((ca 20), 2, .inl (fun _ => 0)))]) (hS : va_S (fun q : Nat => s.heap.size ≤ q) s.heap H locs) (hE : Ev g (fun q : Nat => s.heap.size ≤ q) s) (hl : lv_has ls 7 [(4, .int 0), (3, .ref o0), (2, .ref m0), (1, .ref x0), (0, .ref b0)]) : W p l e room_1 s m #[Value.ref b0] below meth c H locs 243 7586 (lw_Z below #[Value.ref b0] s) (F0 m 913 ls []) := by
  obtain ⟨hx, hb, hr, hml, hown, hts0, hX, hbl, hlocks, hgv⟩ := id C0
  have hts := fun (w : Cond) (h : w ∈ TBL) => hts0 w (TBin w h)
  have hown : s.vm.findClass RL = some m.cls := hown
  have hN := hE.1
  have hA : ∀ q : Nat, s.heap.size ≤ q → (fun q : Nat => s.heap.size ≤ q) q := fun _ h => h
  have hbA : ¬ (fun q : Nat => s.heap.size ≤ q) b0 := Nat.not_le.mpr hbl
  generalize hAe : (fun q : Nat => s.heap.size ≤ q) = A at hD hS hE hA hbA
  refine lv_aload_n hx hb dL_law_913 rfl (lv_at hl 3 rfl) ?_
  refine lv_aload_n hx hb dL_law_914 rfl (lv_at hl 4 rfl) ?_
  refine lv_iload hx hb dL_law_915 (lv_at hl 0 rfl) ?_
  refine lv_iconst (v := 1) hx hb dL_law_917 (by decide) ?_
  refine lv_iadd hx hb dL_law_918 ?_
  refine cst (v := 1) (by decide) ?_
  refine va_sld hx hb hX hbl hbA hS (vin0 (by decide)) dL_law_919 ?_
  refine cst (v := (xs 1)) (congrArg xs (show (1 : Int32).toNatClampNeg = 1 by decide)) ?_
  refine lv_aload_n hx hb dL_law_920 rfl (lv_at hl 4 rfl) ?_
  refine lv_iload hx hb dL_law_921 (lv_at hl 0 rfl) ?_
  refine lv_iconst (v := 2) hx hb dL_law_923 (by decide) ?_
  refine lv_iadd hx hb dL_law_924 ?_
  refine cst (v := 2) (by decide) ?_
  refine va_sld hx hb hX hbl hbA hS (vin0 (by decide)) dL_law_925 ?_
  refine cst (v := (xs 2)) (congrArg xs (show (2 : Int32).toNatClampNeg = 2 by decide)) ?_
  refine lv_aload_n hx hb dL_law_926 rfl (lv_at hl 4 rfl) ?_
  refine lv_iload hx hb dL_law_927 (lv_at hl 0 rfl) ?_
  refine lv_iconst (v := 3) hx hb dL_law_929 (by decide) ?_
  refine lv_iadd hx hb dL_law_930 ?_
  refine cst (v := 3) (by decide) ?_
  refine va_sld hx hb hX hbl hbA hS (vin0 (by decide)) dL_law_931 ?_
  refine cst (v := (xs 3)) (congrArg xs (show (3 : Int32).toNatClampNeg = 3 by decide)) ?_
  have hPc := hP.sub (ws' := [(x0, .inr (7, [.ref (b 0), .ref (b 1), .ref (b 2), .ref (b 3), .ref (b 4), .ref (b 5), .ref (b 6), .ref (b 7), .ref (b 8), .ref (b 9), .int 1])), ((b 6), .inr (0, [.int 0, .ref (fT 1), .int 0, .ref (fT 3), .int 0, .ref (fT 5), .ref (fT 6), .ref (fT 7), .int 0, .ref (fT 9), .ref (fT 10), .ref (fT 11), .ref (fT 12), .ref (fT 13)]))]) [0, 1] rfl
  have hKc := hK.sub (tys' := []) [] rfl
  refine vp_callSi ((va_runV (As := [.int (xs 1), .int (xs 2), .int (xs 3)]) (rest := []) ⟨hx, hb, hml, hown, hts⟩ (c_8mustGo l dC dI g (x0) (b) (f4) (c4) (f5) (f7) (f6) (f2) (cK) (kf) (cZ) (fT) (fU) (sa) (sf) (sc) (spf) (sdf) (slf) (srf) (sga) (sgb) (rows) ((xs 1)) ((xs 2)) ((xs 3)) ) (cwV 3 hts (gwV qw_534 qw_535 qw_536 qw_69 qw_533) rfl rfl rfl (by decide +kernel) ⟨Nat.le_of_ble_eq_true rfl, Nat.le_of_ble_eq_true rfl⟩) ⟨fun a U g9 mk q => ⟨q.1, q.2.1, va_K.moved (u := U) (U := U.calling g9 mk a) (Vm.Alike.refl U.vm) q.2.2.1, Ev.bl q.2.2.2⟩, va_recv hK hP (ci := 7) (q0 := 0) rfl rfl, fun U hU hW => ⟨rfl, by rw [hU]; exact hPc, va_K.moved hW.alike hKc, hE.go hS (fun _ h => h.elim) hU hW⟩⟩ rfl rfl hl.1 rfl (lv_room (Nat.le_of_ble_eq_true rfl)) dL_law_932 ⟨Nat.le_of_ble_eq_true rfl, Nat.le_of_ble_eq_true rfl⟩)).run (fun r1 h_r1 => ?_)
  have h_r1 : r1 = (-1) := h_r1
  subst h_r1
  refine lv_aload_n hx hb dL_law_935 rfl (lv_at hl 2 rfl) ?_
  refine lv_aload_n hx hb dL_law_936 rfl (lv_at hl 4 rfl) ?_
  refine lv_iload hx hb dL_law_937 (lv_at hl 0 rfl) ?_
  refine lv_iconst (v := 1) hx hb dL_law_939 (by decide) ?_
  refine lv_iadd hx hb dL_law_940 ?_
  refine cst (v := 1) (by decide) ?_
  refine va_sld hx hb hX hbl hbA hS (vin0 (by decide)) dL_law_941 ?_
  refine cst (v := (xs 1)) (congrArg xs (show (1 : Int32).toNatClampNeg = 1 by decide)) ?_
  refine lv_aload_n hx hb dL_law_942 rfl (lv_at hl 4 rfl) ?_
  refine lv_iload hx hb dL_law_943 (lv_at hl 0 rfl) ?_
  refine lv_iconst (v := 2) hx hb dL_law_945 (by decide) ?_
  refine lv_iadd hx hb dL_law_946 ?_
  refine cst (v := 2) (by decide) ?_
  refine va_sld hx hb hX hbl hbA hS (vin0 (by decide)) dL_law_947 ?_
  refine cst (v := (xs 2)) (congrArg xs (show (2 : Int32).toNatClampNeg = 2 by decide)) ?_
  refine lv_aload_n hx hb dL_law_948 rfl (lv_at hl 4 rfl) ?_
  refine lv_iload hx hb dL_law_949 (lv_at hl 0 rfl) ?_
  refine lv_iconst (v := 3) hx hb dL_law_951 (by decide) ?_
  refine lv_iadd hx hb dL_law_952 ?_
  refine cst (v := 3) (by decide) ?_
  refine va_sld hx hb hX hbl hbA hS (vin0 (by decide)) dL_law_953 ?_
  refine cst (v := (xs 3)) (congrArg xs (show (3 : Int32).toNatClampNeg = 3 by decide)) ?_
  have hPc := hP.sub (ws' := [(m0, .inr (8, [.int 0, .int 0, .int 0, .int 0, .ref (a 4), .int 0, .int 0, .int 0, .int 0, .int 0, .int 0, .long 0, .int 0, .int 0, .int 0, .int 0, .int 0, .int 0, .ref (a 18), .ref (a 19), .ref (a 20), .ref (a 21), .ref (a 22), .ref (a 23), .ref (a 24), .ref (a 25), .ref (a 26), .ref (a 27), .ref (a 28), .ref (a 29), .ref (a 30), .ref (a 31), .ref (a 32), .ref (a 33), .ref (a 34), .ref (a 35), .long 0, .int 0, .ref (a 38), .ref (a 39), .int 0, .ref (a 41), .ref (a 42), .ref (a 43)])), ((a 20), .inl ((ca 20), 2, .inl (fun _ => 0)))]) [2, 3] rfl
  have hKc := hK.sub (tys' := [((ca 20), .int)]) [0] rfl
  have hDc := hD.sub (ws' := [(m0, .inr (8, [.int 0, .int 0, .int 0, .int 0, .ref (a 4), .int 0, .int 0, .int 0, .int 0, .int 0, .int 0, .long 0, .int 0, .int 0, .int 0, .int 0, .int 0, .int 0, .ref (a 18), .ref (a 19), .ref (a 20), .ref (a 21), .ref (a 22), .ref (a 23), .ref (a 24), .ref (a 25), .ref (a 26), .ref (a 27), .ref (a 28), .ref (a 29), .ref (a 30), .ref (a 31), .ref (a 32), .ref (a 33), .ref (a 34), .ref (a 35), .long 0, .int 0, .ref (a 38), .ref (a 39), .int 0, .ref (a 41), .ref (a 42), .ref (a 43)])), ((a 20), .inl ((ca 20), 2, .inl (fun _ => 0)))]) [2, 3] (by decide) rfl
  have hFc := va_free (wc := [(m0, .inr (8, [.int 0, .int 0, .int 0, .int 0, .ref (a 4), .int 0, .int 0, .int 0, .int 0, .int 0, .int 0, .long 0, .int 0, .int 0, .int 0, .int 0, .int 0, .int 0, .ref (a 18), .ref (a 19), .ref (a 20), .ref (a 21), .ref (a 22), .ref (a 23), .ref (a 24), .ref (a 25), .ref (a 26), .ref (a 27), .ref (a 28), .ref (a 29), .ref (a 30), .ref (a 31), .ref (a 32), .ref (a 33), .ref (a 34), .ref (a 35), .long 0, .int 0, .ref (a 38), .ref (a 39), .int 0, .ref (a 41), .ref (a 42), .ref (a 43)])), ((a 20), .inl ((ca 20), 2, .inl (fun _ => 0)))]) hD hS hA [2, 3] rfl
  refine va_calli (va_runV (As := [.int (xs 1), .int (xs 2), .int (xs 3)]) (rest := [.int (-1)]) ⟨hx, hb, hml, hown, hts⟩ (c_9mustGo l dC dI g H.size (m0) (a) (ca) ((xs 1)) ((xs 2)) ((xs 3)) ) (cwV 3 hts (gwV qw_538 qw_539 qw_540 qw_23 qw_537) rfl rfl rfl (by decide +kernel) ⟨Nat.le_of_ble_eq_true rfl, Nat.le_of_ble_eq_true rfl⟩) ⟨fun a U g9 mk q => ⟨q.1, q.2.1, q.2.2.1, va_K.moved (u := U) (U := U.calling g9 mk a) (Vm.Alike.refl U.vm) q.2.2.2.1, q.2.2.2.2.1, Ev.bl q.2.2.2.2.2⟩, va_recv hK hP (ci := 8) (q0 := 2) rfl rfl, fun U hU hW => ⟨rfl, by rw [hU], by rw [hU]; exact hPc, va_K.moved hW.alike hKc, hDc.weaken (fun _ _ _ _ => trivial), hE.go hS hFc hU hW⟩⟩ rfl rfl hl.1 rfl (lv_room (Nat.le_of_ble_eq_true rfl)) dL_law_954 ⟨Nat.le_of_ble_eq_true rfl, Nat.le_of_ble_eq_true rfl⟩) hS (fun q _ h => hFc q h) hFc (fun r3 u2 t H1 locs ht hvm h_u2 hB hz1 hk1 hS => ?_)
  obtain ⟨hP, hD⟩ := va_join (wr := [(x0, .inr (7, [.ref (b 0), .ref (b 1), .ref (b 2), .ref (b 3), .ref (b 4), .ref (b 5), .ref (b 6), .ref (b 7), .ref (b 8), .ref (b 9), .int 1])), ((b 6), .inr (0, [.int 0, .ref (fT 1), .int 0, .ref (fT 3), .int 0, .ref (fT 5), .ref (fT 6), .ref (fT 7), .int 0, .ref (fT 9), .ref (fT 10), .ref (fT 11), .ref (fT 12), .ref (fT 13)]))]) (w1 := []) hP hD [2, 3] [0, 1] rfl rfl (by decide) (by decide) hk1 hFc va_P0 va_D0
  generalize H1 = H at hP hS ⊢
  have hP : va_P (dC, dI) vwCl [(x0, .inr (7, [.ref (b 0), .ref (b 1), .ref (b 2), .ref (b 3), .ref (b 4), .ref (b 5), .ref (b 6), .ref (b 7), .ref (b 8), .ref (b 9), .int 1])), ((b 6), .inr (0, [.int 0, .ref (fT 1), .int 0, .ref (fT 3), .int 0, .ref (fT 5), .ref (fT 6), .ref (fT 7), .int 0, .ref (fT 9), .ref (fT 10), .ref (fT 11), .ref (fT 12), .ref (fT 13)]))] H := hP
  have hD : va_D A [(x0, .inr (7, [.ref (b 0), .ref (b 1), .ref (b 2), .ref (b 3), .ref (b 4), .ref (b 5), .ref (b 6), .ref (b 7), .ref (b 8), .ref (b 9), .int 1])), ((b 6), .inr (0, [.int 0, .ref (fT 1), .int 0, .ref (fT 3), .int 0, .ref (fT 5), .ref (fT 6), .ref (fT 7), .int 0, .ref (fT 9), .ref (fT 10), .ref (fT 11), .ref (fT 12), .ref (fT 13)]))] := hD
  refine W.widen (k := 243) (n := 7586) (Nat.le_of_ble_eq_true rfl) (Nat.le_of_ble_eq_true rfl) ?_
  have h_u2 : r3 = (-1) := h_u2
  subst h_u2
  refine lv_icmp_eq (tgt := 1311) hx hb dL_law_957 (by decide) (fun c957_4 => ?_) (fun c957_4 => by exfalso; exact absurd c957_4 (by decide))
  refine lv_iinc (v := 6) (lv' := [(4, .int 6), (3, .ref o0), (2, .ref m0), (1, .ref x0), (0, .ref b0)]) hx hb dL_law_1311 hl (k := 0) rfl (by decide) (by decide) rfl (fun ls hl => ?_)
  refine lv_goto (tgt := 23) hx hb dL_law_1314 (by decide) ?_
  refine lv_iload hx hb dL_law_23 (lv_at hl 0 rfl) ?_
  refine lv_aload_n hx hb dL_law_25 rfl (lv_at hl 4 rfl) ?_
  refine va_slen hx hb hX hbl hbA hS dL_law_26 ?_
  refine cst (v := 6) (by decide) ?_
  refine lv_bipush (v := 6) hx hb dL_law_27 (by decide) ?_
  refine lv_isub hx hb dL_law_29 ?_
  refine cst (v := 0) (by decide) ?_
  refine lv_icmp_gt (tgt := 1317) hx hb dL_law_30 (by decide) (fun c30_5 => ?_) (fun c30_5 => by exfalso; exact absurd c30_5 (by decide))
  refine lv_iconst (v := 1) hx hb dL_law_1317 (by decide) ?_
  refine va_forget (fun q h => by have h8 := hS.2.2 q h; rw [← hAe] at h8; exact h8) ?_
  refine W.widen (k := 600002) (n := 7302232) (Nat.le_of_ble_eq_true rfl) (Nat.le_of_ble_eq_true rfl) ?_
  exact lw_ret hx hb hr hlocks dL_law_1318
