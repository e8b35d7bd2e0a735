theorem cdX10_rank : yX10_rank.cls ≠ "java/lang/invoke/MethodHandle" ∧ yX10_rank.cls ≠ "java/lang/invoke/VarHandle" ∧ (parseMethodDescriptor yX10_rank.desc).map (fun d => d.parameters.length) = some 5 := by decide +kernel
theorem cdX11_rank : yX11_rank.cls ≠ "java/lang/invoke/MethodHandle" ∧ yX11_rank.cls ≠ "java/lang/invoke/VarHandle" ∧ (parseMethodDescriptor yX11_rank.desc).map (fun d => d.parameters.length) = some 5 := by decide +kernel
set_option maxRecDepth 20000 in
theorem ggL_law_X10_rank : GoodIn wsL_law wsX10_rank := goodIn_ch _ [(22, 14), (8, 8), (1, 12), (17, 20), (22, 15), (1, 4), (22, 16), (19, 9), (19, 10), (19, 11), (0, 2), (19, 12), (18, 16), (8, 9), (8, 10), (8, 11), (12, 15), (12, 16), (12, 17), (22, 17), (22, 18), (22, 19), (1, 11), (22, 20), (22, 5), (22, 21), (22, 22), (22, 23), (23, 0), (4, 10), (4, 13), (23, 1), (23, 2), (23, 3), (23, 4), (4, 14), (23, 5), (23, 6), (23, 7), (23, 8), (4, 12), (4, 11), (23, 9), (23, 10), (23, 11), (23, 12), (23, 13), (23, 14), (16, 7), (23, 15), (48, 0), (48, 1), (48, 2), (48, 3), (48, 4), (48, 5), (48, 6), (48, 7), (48, 8), (48, 9), (48, 10), (48, 11), (48, 12), (48, 13), (54, 0), (54, 1), (54, 2), (54, 3), (54, 4), (54, 5), (52, 0), (52, 1), (52, 2), (52, 3), (52, 4), (52, 5)] rfl (by decide +kernel)
set_option maxRecDepth 20000 in
theorem gL_law_X10_rank : GoodIn wsL_law (wsV RL 86 RX10 yX10_rank wsX10_rank) := goodIn_app (goodIn_ch _ [(22, 11), (22, 12), (22, 13), (0, 2)] rfl (by decide +kernel)) ggL_law_X10_rank
set_option maxRecDepth 20000 in
theorem ggL_law_X11_rank : GoodIn wsL_law wsX11_rank := goodIn_ch _ [(23, 19), (9, 6), (23, 20), (9, 8), (6, 21), (8, 2), (22, 10), (7, 3), (7, 6), (7, 4), (20, 6), (20, 7), (20, 8), (0, 5), (20, 9), (19, 3), (9, 14), (9, 15), (9, 16), (13, 18), (13, 19), (13, 20), (13, 21), (23, 21), (23, 22), (23, 23), (24, 0), (7, 5), (49, 0), (49, 1), (49, 2), (49, 3), (49, 4), (49, 5), (49, 6), (49, 7), (49, 8), (49, 9), (49, 10), (49, 11), (49, 12), (49, 13), (49, 14), (49, 15), (49, 16), (49, 17), (49, 18), (49, 19), (49, 20), (49, 21), (49, 22), (49, 23), (49, 24), (49, 25), (49, 26), (49, 27), (49, 28), (49, 29), (49, 30), (49, 31), (49, 32), (49, 33), (49, 34), (49, 35), (49, 36), (49, 37), (49, 38), (49, 39), (49, 40), (49, 41), (49, 42), (49, 43), (49, 44), (49, 45), (49, 46), (49, 47), (49, 48), (49, 49), (49, 50), (49, 51), (49, 52), (49, 53), (49, 54), (49, 55), (49, 56), (49, 57), (49, 58), (49, 59), (49, 60), (49, 61), (49, 62), (49, 63)] rfl (by decide +kernel)
set_option maxRecDepth 20000 in
theorem gL_law_X11_rank : GoodIn wsL_law (wsV RL 89 RX11 yX11_rank wsX11_rank) := goodIn_app (goodIn_ch _ [(23, 16), (23, 17), (23, 18), (0, 5)] rfl (by decide +kernel)) ggL_law_X11_rank
theorem dL_law_853 : decode cL_law 853 = .ok (.aload_n 1, 1) := dL_law_all48.2.2.2.2.2.2.2.1
theorem dL_law_854 : decode cL_law 854 = .ok (.aload_n 0, 1) := dL_law_all48.2.2.2.2.2.2.2.2.1
theorem dL_law_855 : decode cL_law 855 = .ok (.iload_n 3, 1) := dL_law_all48.2.2.2.2.2.2.2.2.2.1
theorem dL_law_856 : decode cL_law 856 = .ok (.iconst 1, 1) := dL_law_all48.2.2.2.2.2.2.2.2.2.2.1
theorem dL_law_857 : decode cL_law 857 = .ok (.iadd, 1) := dL_law_all48.2.2.2.2.2.2.2.2.2.2.2
theorem dL_law_all49 : decode cL_law 858 = .ok (.iaload, 1) ∧ decode cL_law 859 = .ok (.aload_n 0, 1) ∧ decode cL_law 860 = .ok (.iload_n 3, 1) ∧ decode cL_law 861 = .ok (.iconst 2, 1) ∧ decode cL_law 862 = .ok (.iadd, 1) ∧ decode cL_law 863 = .ok (.iaload, 1) ∧ decode cL_law 864 = .ok (.aload_n 0, 1) ∧ decode cL_law 865 = .ok (.iload_n 3, 1) ∧ decode cL_law 866 = .ok (.iconst 3, 1) ∧ decode cL_law 867 = .ok (.iadd, 1) ∧ decode cL_law 868 = .ok (.iaload, 1) ∧ decode cL_law 869 = .ok (.aload_n 0, 1) := by decide +kernel
theorem dL_law_858 : decode cL_law 858 = .ok (.iaload, 1) := dL_law_all49.1
theorem dL_law_859 : decode cL_law 859 = .ok (.aload_n 0, 1) := dL_law_all49.2.1
theorem dL_law_860 : decode cL_law 860 = .ok (.iload_n 3, 1) := dL_law_all49.2.2.1
theorem dL_law_861 : decode cL_law 861 = .ok (.iconst 2, 1) := dL_law_all49.2.2.2.1
theorem dL_law_862 : decode cL_law 862 = .ok (.iadd, 1) := dL_law_all49.2.2.2.2.1
theorem dL_law_863 : decode cL_law 863 = .ok (.iaload, 1) := dL_law_all49.2.2.2.2.2.1
theorem dL_law_864 : decode cL_law 864 = .ok (.aload_n 0, 1) := dL_law_all49.2.2.2.2.2.2.1
theorem dL_law_865 : decode cL_law 865 = .ok (.iload_n 3, 1) := dL_law_all49.2.2.2.2.2.2.2.1
theorem dL_law_866 : decode cL_law 866 = .ok (.iconst 3, 1) := dL_law_all49.2.2.2.2.2.2.2.2.1
theorem dL_law_867 : decode cL_law 867 = .ok (.iadd, 1) := dL_law_all49.2.2.2.2.2.2.2.2.2.1
theorem dL_law_868 : decode cL_law 868 = .ok (.iaload, 1) := dL_law_all49.2.2.2.2.2.2.2.2.2.2.1
theorem dL_law_869 : decode cL_law 869 = .ok (.aload_n 0, 1) := dL_law_all49.2.2.2.2.2.2.2.2.2.2.2
theorem dL_law_all50 : decode cL_law 870 = .ok (.iload_n 3, 1) ∧ decode cL_law 871 = .ok (.iconst 4, 1) ∧ decode cL_law 872 = .ok (.iadd, 1) ∧ decode cL_law 873 = .ok (.iaload, 1) ∧ decode cL_law 874 = .ok (.aload_n 0, 1) ∧ decode cL_law 875 = .ok (.iload_n 3, 1) ∧ decode cL_law 876 = .ok (.iconst 5, 1) ∧ decode cL_law 877 = .ok (.iadd, 1) ∧ decode cL_law 878 = .ok (.iaload, 1) ∧ decode cL_law 879 = .ok (.invokevirtual 86, 3) ∧ decode cL_law 882 = .ok (.pop, 1) ∧ decode cL_law 883 = .ok (.aload_n 2, 1) := by decide +kernel
theorem dL_law_870 : decode cL_law 870 = .ok (.iload_n 3, 1) := dL_law_all50.1
theorem dL_law_871 : decode cL_law 871 = .ok (.iconst 4, 1) := dL_law_all50.2.1
theorem dL_law_872 : decode cL_law 872 = .ok (.iadd, 1) := dL_law_all50.2.2.1
theorem dL_law_873 : decode cL_law 873 = .ok (.iaload, 1) := dL_law_all50.2.2.2.1
theorem dL_law_874 : decode cL_law 874 = .ok (.aload_n 0, 1) := dL_law_all50.2.2.2.2.1
theorem dL_law_875 : decode cL_law 875 = .ok (.iload_n 3, 1) := dL_law_all50.2.2.2.2.2.1
theorem dL_law_876 : decode cL_law 876 = .ok (.iconst 5, 1) := dL_law_all50.2.2.2.2.2.2.1
theorem dL_law_877 : decode cL_law 877 = .ok (.iadd, 1) := dL_law_all50.2.2.2.2.2.2.2.1
theorem dL_law_878 : decode cL_law 878 = .ok (.iaload, 1) := dL_law_all50.2.2.2.2.2.2.2.2.1
theorem dL_law_879 : decode cL_law 879 = .ok (.invokevirtual 86, 3) := dL_law_all50.2.2.2.2.2.2.2.2.2.1
theorem dL_law_882 : decode cL_law 882 = .ok (.pop, 1) := dL_law_all50.2.2.2.2.2.2.2.2.2.2.1
theorem dL_law_883 : decode cL_law 883 = .ok (.aload_n 2, 1) := dL_law_all50.2.2.2.2.2.2.2.2.2.2.2
theorem dL_law_all51 : decode cL_law 884 = .ok (.aload_n 0, 1) ∧ decode cL_law 885 = .ok (.iload_n 3, 1) ∧ decode cL_law 886 = .ok (.iconst 1, 1) ∧ decode cL_law 887 = .ok (.iadd, 1) ∧ decode cL_law 888 = .ok (.iaload, 1) ∧ decode cL_law 889 = .ok (.aload_n 0, 1) ∧ decode cL_law 890 = .ok (.iload_n 3, 1) ∧ decode cL_law 891 = .ok (.iconst 2, 1) ∧ decode cL_law 892 = .ok (.iadd, 1) ∧ decode cL_law 893 = .ok (.iaload, 1) ∧ decode cL_law 894 = .ok (.aload_n 0, 1) ∧ decode cL_law 895 = .ok (.iload_n 3, 1) := by decide +kernel
theorem dL_law_884 : decode cL_law 884 = .ok (.aload_n 0, 1) := dL_law_all51.1
theorem dL_law_885 : decode cL_law 885 = .ok (.iload_n 3, 1) := dL_law_all51.2.1
theorem dL_law_886 : decode cL_law 886 = .ok (.iconst 1, 1) := dL_law_all51.2.2.1
theorem dL_law_887 : decode cL_law 887 = .ok (.iadd, 1) := dL_law_all51.2.2.2.1
theorem dL_law_888 : decode cL_law 888 = .ok (.iaload, 1) := dL_law_all51.2.2.2.2.1
theorem dL_law_889 : decode cL_law 889 = .ok (.aload_n 0, 1) := dL_law_all51.2.2.2.2.2.1
theorem dL_law_890 : decode cL_law 890 = .ok (.iload_n 3, 1) := dL_law_all51.2.2.2.2.2.2.1
theorem dL_law_891 : decode cL_law 891 = .ok (.iconst 2, 1) := dL_law_all51.2.2.2.2.2.2.2.1
theorem dL_law_892 : decode cL_law 892 = .ok (.iadd, 1) := dL_law_all51.2.2.2.2.2.2.2.2.1
theorem dL_law_893 : decode cL_law 893 = .ok (.iaload, 1) := dL_law_all51.2.2.2.2.2.2.2.2.2.1
theorem dL_law_894 : decode cL_law 894 = .ok (.aload_n 0, 1) := dL_law_all51.2.2.2.2.2.2.2.2.2.2.1
theorem dL_law_895 : decode cL_law 895 = .ok (.iload_n 3, 1) := dL_law_all51.2.2.2.2.2.2.2.2.2.2.2
theorem dL_law_all52 : decode cL_law 896 = .ok (.iconst 3, 1) ∧ decode cL_law 897 = .ok (.iadd, 1) ∧ decode cL_law 898 = .ok (.iaload, 1) ∧ decode cL_law 899 = .ok (.aload_n 0, 1) ∧ decode cL_law 900 = .ok (.iload_n 3, 1) ∧ decode cL_law 901 = .ok (.iconst 4, 1) ∧ decode cL_law 902 = .ok (.iadd, 1) ∧ decode cL_law 903 = .ok (.iaload, 1) ∧ decode cL_law 904 = .ok (.aload_n 0, 1) ∧ decode cL_law 905 = .ok (.iload_n 3, 1) ∧ decode cL_law 906 = .ok (.iconst 5, 1) ∧ decode cL_law 907 = .ok (.iadd, 1) := by decide +kernel
theorem dL_law_896 : decode cL_law 896 = .ok (.iconst 3, 1) := dL_law_all52.1
theorem dL_law_897 : decode cL_law 897 = .ok (.iadd, 1) := dL_law_all52.2.1
theorem dL_law_898 : decode cL_law 898 = .ok (.iaload, 1) := dL_law_all52.2.2.1
theorem dL_law_899 : decode cL_law 899 = .ok (.aload_n 0, 1) := dL_law_all52.2.2.2.1
theorem dL_law_900 : decode cL_law 900 = .ok (.iload_n 3, 1) := dL_law_all52.2.2.2.2.1
theorem dL_law_901 : decode cL_law 901 = .ok (.iconst 4, 1) := dL_law_all52.2.2.2.2.2.1
theorem dL_law_902 : decode cL_law 902 = .ok (.iadd, 1) := dL_law_all52.2.2.2.2.2.2.1
theorem dL_law_903 : decode cL_law 903 = .ok (.iaload, 1) := dL_law_all52.2.2.2.2.2.2.2.1
theorem dL_law_904 : decode cL_law 904 = .ok (.aload_n 0, 1) := dL_law_all52.2.2.2.2.2.2.2.2.1
theorem dL_law_905 : decode cL_law 905 = .ok (.iload_n 3, 1) := dL_law_all52.2.2.2.2.2.2.2.2.2.1
theorem dL_law_906 : decode cL_law 906 = .ok (.iconst 5, 1) := dL_law_all52.2.2.2.2.2.2.2.2.2.2.1
theorem dL_law_907 : decode cL_law 907 = .ok (.iadd, 1) := dL_law_all52.2.2.2.2.2.2.2.2.2.2.2
theorem dL_law_all53 : decode cL_law 908 = .ok (.iaload, 1) ∧ decode cL_law 909 = .ok (.invokevirtual 89, 3) ∧ decode cL_law 912 = .ok (.pop, 1) ∧ decode cL_law 913 = .ok (.goto 739, 3) ∧ decode cL_law 916 = .ok (.aload_n 1, 1) ∧ decode cL_law 917 = .ok (.aload_n 0, 1) ∧ decode cL_law 918 = .ok (.iload_n 3, 1) ∧ decode cL_law 919 = .ok (.iconst 1, 1) ∧ decode cL_law 920 = .ok (.iadd, 1) ∧ decode cL_law 921 = .ok (.iaload, 1) ∧ decode cL_law 922 = .ok (.i2l, 1) ∧ decode cL_law 923 = .ok (.bipush 32, 2) := by decide +kernel
theorem dL_law_908 : decode cL_law 908 = .ok (.iaload, 1) := dL_law_all53.1
theorem dL_law_909 : decode cL_law 909 = .ok (.invokevirtual 89, 3) := dL_law_all53.2.1
theorem dL_law_912 : decode cL_law 912 = .ok (.pop, 1) := dL_law_all53.2.2.1
theorem dL_law_913 : decode cL_law 913 = .ok (.goto 739, 3) := dL_law_all53.2.2.2.1
set_option maxHeartbeats 4000000 in
set_option maxRecDepth 100000 in
theorem law_case_15 {p : Program} {l : Launch} {e : Env} {s : State} {m : MethodId} {below : List Frame} {meth : Method} {c : Code} {D : va_G} {cI cY cJ cQ : ClassId} {b L aK aV : Nat} {xs : Nat → Int32} {ad rw md : Nat → Nat} {sd i : Int32} {nx : Nat → Int32} {fx rs : Nat → Nat → Int32} {lo : Nat → Int64} {ny : Nat → Int32} {fy : Nat → Nat → Int32} {fl : Nat → Int64} {H : Heap} {locs : List Loc} {ls : Array Slot} (C0 : lawC p s m meth c b L xs D cI cY cJ cQ aK aV) (I : inv nx fx ny fy) (hP : va_P D vwCl (wX ad rw sd cI cY cJ cQ nx fx rs lo ++ wM md sd cI cY cJ cQ ny fy fl) H) (hD : va_D (fun q : Nat => s.heap.size ≤ q) (wX ad rw sd cI cY cJ cQ nx fx rs lo ++ wM md sd cI cY cJ cQ ny fy fl)) (hS : va_S (fun q : Nat => s.heap.size ≤ q) s.heap H locs) (hl : lv_has ls 4 [(0, .ref b), (1, .ref (ad 0)), (2, .ref (md 64)), (3, .int i)]) (hi1 : 1 ≤ i.toInt) (hi2 : i.toInt + 5 < L) (kk : ∀ (nx : Nat → Int32) (fx rs : Nat → Nat → Int32) (lo : Nat → Int64) (ny : Nat → Int32) (fy : Nat → Nat → Int32) (fl : Nat → Int64) (H : Heap) (locs : List Loc) (ls : Array Slot), inv nx fx ny fy → va_P D vwCl (wX ad rw sd cI cY cJ cQ nx fx rs lo ++ wM md sd cI cY cJ cQ ny fy fl) H → va_D (fun q : Nat => s.heap.size ≤ q) (wX ad rw sd cI cY cJ cQ nx fx rs lo ++ wM md sd cI cY cJ cQ ny fy fl) → va_S (fun q : Nat => s.heap.size ≤ q) s.heap H locs → lv_has ls 4 [(0, .ref b), (1, .ref (ad 0)), (2, .ref (md 64)), (3, .int i)] → W p l e room_1 s m #[Value.ref b] below meth c H locs 107 4890 (lw_Z below #[Value.ref b] s) (F0 m 1652 ls [])) : W p l e room_1 s m #[Value.ref b] below meth c H locs 107 4890 (lw_Z below #[Value.ref b] s) (F0 m 853 ls []) := by
  obtain ⟨C1, hK, hN, hT, hL⟩ := C0
  obtain ⟨hx, hb, hr, hml, hown, hts0, hX, hbl, hlocks, hgv⟩ := C1
  have hA : ∀ q : Nat, s.heap.size ≤ q → (fun q : Nat => s.heap.size ≤ q) q := fun _ h => h
  have hbA : ¬ (fun q : Nat => s.heap.size ≤ q) b := Nat.not_le.mpr hbl
  have hts : ∀ w ∈ wsL_law, w.before #[Value.ref b] s = true := fun w h => hts0 w (wsL_law_in w h)
  replace hown : s.vm.findClass RL = some m.cls := hown
  replace hb : c.code = cL_law := hb
  obtain ⟨Xhna, Xhnb, XH, Xcna, Xcnb, Xpna, Xpnb, XO, Xgna, Xgnb, Xlna, Xlnb, Xdla, Xdlb, Xana, Xanb, Xuna, Xunb, Xlca, Xlcb, Xtna, Xtnb, XS, Mhna, Mhnb, MH, MS, Mmlna, Mmlnb, Mmtna, Mmtnb, Ccn, Cfo, Cwo, Cpn, Cpk, Cpf, Cpo, Cpd, Cpe, Cgn, Cgk, Cgs, Cgd, Cge, Can, Cak, Cah, Cay, Caz, Cun, Cuk, Cuy, Cuw, Cum, Clc, Clp, Cla, Clb, Caw, Ciw, Cln, Ctd⟩ := I
  have Tcn := i_eq Ccn
  have Tpn := i_eq Cpn
  have Tgn := i_eq Cgn
  have Tan := i_eq Can
  have Tun := i_eq Cun
  have Tlc := i_eq Clc
  have Tln := i_eq Cln
  have k1 : (1 : Int32).toInt = 1 := by decide
  have k2 : (2 : Int32).toInt = 2 := by decide
  have k3 : (3 : Int32).toInt = 3 := by decide
  have k4 : (4 : Int32).toInt = 4 := by decide
  have k5 : (5 : Int32).toInt = 5 := by decide
  obtain ⟨xk1, exk1⟩ : ∃ y : Int32, y = xs (i.toNatClampNeg + 1) := ⟨_, rfl⟩
  obtain ⟨xk2, exk2⟩ : ∃ y : Int32, y = xs (i.toNatClampNeg + 2) := ⟨_, rfl⟩
  obtain ⟨xk3, exk3⟩ : ∃ y : Int32, y = xs (i.toNatClampNeg + 3) := ⟨_, rfl⟩
  obtain ⟨xk4, exk4⟩ : ∃ y : Int32, y = xs (i.toNatClampNeg + 4) := ⟨_, rfl⟩
  obtain ⟨xk5, exk5⟩ : ∃ y : Int32, y = xs (i.toNatClampNeg + 5) := ⟨_, rfl⟩
  refine lv_aload_n hx hb dL_law_853 rfl (lv_at hl 1 rfl) ?_
  refine lv_aload_n hx hb dL_law_854 rfl (lv_at hl 0 rfl) ?_
  refine lv_iload_n hx hb dL_law_855 rfl (lv_at hl 3 rfl) ?_
  refine lv_iconst (v := 1) hx hb dL_law_856 (by decide) ?_
  refine lv_iadd hx hb dL_law_857 ?_
  refine lv_topi (fun v1 ev1 => ?_)
  try have tv1 : v1.toInt = i.toInt + 1 := by rw [ev1]; exact (i_add (x := i) (y := (1 : Int32)) (by rw [k1]; omega) (by rw [k1]; omega)).trans (by rw [k1])
  refine va_sld hx hb hX hbl hbA hS (i_in (by omega) (by omega)) dL_law_858 ?_
  refine lv_topi (fun a2 ea2 => ?_)
  replace ea2 : xk1 = a2 := (ea2.trans (by rw [exk1]; congr 1; have := i_cl (x := v1) (by omega); have := i_cl (x := i) (by omega); omega)).symm
  subst ea2
  refine lv_aload_n hx hb dL_law_859 rfl (lv_at hl 0 rfl) ?_
  refine lv_iload_n hx hb dL_law_860 rfl (lv_at hl 3 rfl) ?_
  refine lv_iconst (v := 2) hx hb dL_law_861 (by decide) ?_
  refine lv_iadd hx hb dL_law_862 ?_
  refine lv_topi (fun v3 ev3 => ?_)
  try have tv3 : v3.toInt = i.toInt + 2 := by rw [ev3]; exact (i_add (x := i) (y := (2 : Int32)) (by rw [k2]; omega) (by rw [k2]; omega)).trans (by rw [k2])
  refine va_sld hx hb hX hbl hbA hS (i_in (by omega) (by omega)) dL_law_863 ?_
  refine lv_topi (fun a4 ea4 => ?_)
  replace ea4 : xk2 = a4 := (ea4.trans (by rw [exk2]; congr 1; have := i_cl (x := v3) (by omega); have := i_cl (x := i) (by omega); omega)).symm
  subst ea4
  refine lv_aload_n hx hb dL_law_864 rfl (lv_at hl 0 rfl) ?_
  refine lv_iload_n hx hb dL_law_865 rfl (lv_at hl 3 rfl) ?_
  refine lv_iconst (v := 3) hx hb dL_law_866 (by decide) ?_
  refine lv_iadd hx hb dL_law_867 ?_
  refine lv_topi (fun v5 ev5 => ?_)
  try have tv5 : v5.toInt = i.toInt + 3 := by rw [ev5]; exact (i_add (x := i) (y := (3 : Int32)) (by rw [k3]; omega) (by rw [k3]; omega)).trans (by rw [k3])
  refine va_sld hx hb hX hbl hbA hS (i_in (by omega) (by omega)) dL_law_868 ?_
  refine lv_topi (fun a6 ea6 => ?_)
  replace ea6 : xk3 = a6 := (ea6.trans (by rw [exk3]; congr 1; have := i_cl (x := v5) (by omega); have := i_cl (x := i) (by omega); omega)).symm
  subst ea6
  refine lv_aload_n hx hb dL_law_869 rfl (lv_at hl 0 rfl) ?_
  refine lv_iload_n hx hb dL_law_870 rfl (lv_at hl 3 rfl) ?_
  refine lv_iconst (v := 4) hx hb dL_law_871 (by decide) ?_
  refine lv_iadd hx hb dL_law_872 ?_
  refine lv_topi (fun v7 ev7 => ?_)
  try have tv7 : v7.toInt = i.toInt + 4 := by rw [ev7]; exact (i_add (x := i) (y := (4 : Int32)) (by rw [k4]; omega) (by rw [k4]; omega)).trans (by rw [k4])
  refine va_sld hx hb hX hbl hbA hS (i_in (by omega) (by omega)) dL_law_873 ?_
  refine lv_topi (fun a8 ea8 => ?_)
  replace ea8 : xk4 = a8 := (ea8.trans (by rw [exk4]; congr 1; have := i_cl (x := v7) (by omega); have := i_cl (x := i) (by omega); omega)).symm
  subst ea8
  refine lv_aload_n hx hb dL_law_874 rfl (lv_at hl 0 rfl) ?_
  refine lv_iload_n hx hb dL_law_875 rfl (lv_at hl 3 rfl) ?_
  refine lv_iconst (v := 5) hx hb dL_law_876 (by decide) ?_
  refine lv_iadd hx hb dL_law_877 ?_
  refine lv_topi (fun v9 ev9 => ?_)
  try have tv9 : v9.toInt = i.toInt + 5 := by rw [ev9]; exact (i_add (x := i) (y := (5 : Int32)) (by rw [k5]; omega) (by rw [k5]; omega)).trans (by rw [k5])
  refine va_sld hx hb hX hbl hbA hS (i_in (by omega) (by omega)) dL_law_878 ?_
  refine lv_topi (fun a10 ea10 => ?_)
  replace ea10 : xk5 = a10 := (ea10.trans (by rw [exk5]; congr 1; have := i_cl (x := v9) (by omega); have := i_cl (x := i) (by omega); omega)).symm
  subst ea10
  refine st_iQ (wr := [((ad 11), .inl (cI, 16, .inl (fx 0))), ((rw 0), .inl (cI, 60, .inl (rs 0))), ((rw 1), .inl (cI, 60, .inl (rs 1))), ((rw 2), .inl (cI, 60, .inl (rs 2))), ((rw 3), .inl (cI, 60, .inl (rs 3))), ((rw 4), .inl (cI, 60, .inl (rs 4))), ((rw 5), .inl (cI, 60, .inl (rs 5))), ((rw 6), .inl (cI, 60, .inl (rs 6))), ((rw 7), .inl (cI, 60, .inl (rs 7))), ((ad 1), .inr (9, [.ref (ad 12), .ref (ad 13), .ref (ad 14)])), ((ad 12), .inl (cQ, 8, .inr (.inr (.inr (.inr (fun i => if i < 8 then some (rw i) else none)))))), ((ad 13), .inl (cI, 8, .inl (fx 1))), ((ad 14), .inl (cI, 8, .inl (fx 2))), ((ad 2), .inr (3, [.ref (ad 23), .ref (ad 24), .ref (ad 25), .ref (ad 26), .int (nx 3), .ref (ad 27), .ref (ad 28), .ref (ad 29), .ref (ad 30)])), ((ad 23), .inl (cI, 40, .inl (fx 3))), ((ad 24), .inl (cI, 40, .inl (fx 4))), ((ad 25), .inl (cI, 40, .inl (fx 5))), ((ad 26), .inl (cI, 40, .inl (fx 6))), ((ad 27), .inl (cI, 200, .inl (fx 7))), ((ad 28), .inl (cI, 200, .inl (fx 8))), ((ad 29), .inl (cI, 20, .inl (fx 9))), ((ad 30), .inl (cI, 10, .inl (fx 10))), ((ad 31), .inl (cI, 12, .inl (fx 11))), ((ad 33), .inl (cI, 12, .inl (fx 13))), ((ad 34), .inl (cI, 6, .inl (fx 14))), ((ad 35), .inl (cI, 6, .inl (fx 15))), ((ad 4), .inr (7, [.ref (ad 36), .ref (ad 37), .ref (ad 38), .ref (ad 39), .ref (ad 40), .ref (ad 41), .int (nx 5)])), ((ad 36), .inl (cI, 40, .inl (fx 16))), ((ad 37), .inl (cI, 40, .inl (fx 17))), ((ad 38), .inl (cI, 40, .inl (fx 18))), ((ad 39), .inl (cI, 40, .inl (fx 19))), ((ad 40), .inl (cI, 40, .inl (fx 20))), ((ad 41), .inl (cI, 40, .inl (fx 21))), ((ad 6), .inr (2, [.ref (ad 47), .int (nx 7), .int (nx 8), .ref (ad 48), .ref (ad 49), .ref (ad 50), .int (nx 9), .ref (ad 51), .ref (ad 52), .ref (ad 53), .int (nx 10), .int (nx 11), .int (nx 12), .int (nx 13), .int (nx 14)])), ((ad 47), .inl (cY, 300, .inl (fx 27))), ((ad 48), .inl (cI, 12, .inl (fx 28))), ((ad 49), .inl (cI, 12, .inl (fx 29))), ((ad 50), .inl (cI, 12, .inl (fx 30))), ((ad 51), .inl (cI, 12, .inl (fx 31))), ((ad 52), .inl (cI, 12, .inl (fx 32))), ((ad 53), .inl (cI, 12, .inl (fx 33))), ((ad 7), .inr (0, [.ref (ad 54), .ref (ad 55), .ref (ad 56), .ref (ad 57), .int (nx 15)])), ((ad 54), .inl (cI, 60, .inl (fx 34))), ((ad 55), .inl (cI, 60, .inl (fx 35))), ((ad 56), .inl (cI, 60, .inl (fx 36))), ((ad 57), .inl (cI, 60, .inl (fx 37))), ((ad 8), .inr (5, [.int sd, .ref (ad 58)])), ((ad 58), .inl (cJ, 12, .inr (.inl lo))), ((ad 9), .inr (6, [.ref (ad 59), .ref (ad 60), .ref (ad 61), .ref (ad 62), .int (nx 16)])), ((ad 59), .inl (cI, 60, .inl (fx 38))), ((ad 60), .inl (cI, 60, .inl (fx 39))), ((ad 61), .inl (cI, 60, .inl (fx 40))), ((ad 62), .inl (cI, 60, .inl (fx 41))), ((ad 10), .inr (4, [.ref (ad 63), .ref (ad 64), .ref (ad 65), .int (nx 17)])), ((ad 63), .inl (cI, 20, .inl (fx 42))), ((ad 64), .inl (cI, 20, .inl (fx 43))), ((ad 65), .inl (cI, 20, .inl (fx 44)))]) (va_runV (C := RX10) (As := [.int xk1, .int xk2, .int xk3, .int xk4, .int xk5]) (rest := []) ⟨hx, hb, hml, hown, hts⟩ (ct_X10_rank l D cI cY cJ cQ _ ad (nx 0) (nx 1) (nx 2) (nx 4) (nx 6) (fx 12) (fx 22) (fx 23) (fx 24) (fx 25) (fx 26) xk1 xk2 xk3 xk4 xk5 (by omega) (by omega) (by omega) (by omega)) (cwV 5 hts gL_law_X10_rank rfl rfl rfl ⟨rfl, cdX10_rank⟩ ⟨Nat.le_of_ble_eq_true rfl, Nat.le_of_ble_eq_true rfl⟩) (cPreV (hP.sub [0, 23, 25, 36, 37, 38, 39, 40, 41] rfl) hK (hD.sub [0, 23, 25, 36, 37, 38, 39, 40, 41] (by decide +kernel) rfl) hN (ci := 10) (q0 := 0) rfl rfl) rfl rfl hl.1 rfl (lv_room (Nat.le_of_ble_eq_true rfl)) dL_law_879 ⟨Nat.le_of_ble_eq_true rfl, Nat.le_of_ble_eq_true rfl⟩) hP hD hS hA [0, 23, 25, 36, 37, 38, 39, 40, 41] [1, 2, 3, 4, 5, 6, 7, 8, 9, 10, 11, 12, 13, 14, 15, 16, 17, 18, 19, 20, 21, 22, 24, 26, 27, 28, 29, 30, 31, 32, 33, 34, 35, 42, 43, 44, 45, 46, 47, 48, 49, 50, 51, 52, 53, 54, 55, 56, 57, 58, 59, 60, 61, 62, 63, 64, 65] rfl rfl (by decide +kernel) (by decide +kernel) (fun r13 u11 H locs hw12 hP hD hS => ?_)
  replace hw12 : True := hw12
  refine lv_pop hx hb dL_law_882 rfl ?_
  have hPx : va_P D vwCl (wX ad rw sd cI cY cJ cQ nx (upR fx 26 u11) rs lo ++ wM md sd cI cY cJ cQ ny fy fl) H := hP.part [57, 0, 1, 2, 3, 4, 5, 6, 7, 8, 9, 10, 11, 12, 13, 14, 15, 16, 17, 18, 19, 20, 21, 58, 22, 59, 23, 24, 25, 26, 27, 28, 29, 30, 31, 32, 60, 61, 62, 63, 64, 65, 33, 34, 35, 36, 37, 38, 39, 40, 41, 42, 43, 44, 45, 46, 47, 48, 49, 50, 51, 52, 53, 54, 55, 56] rfl
  have hDx : va_D (fun q : Nat => s.heap.size ≤ q) (wX ad rw sd cI cY cJ cQ nx (upR fx 26 u11) rs lo ++ wM md sd cI cY cJ cQ ny fy fl) := hD.part [57, 0, 1, 2, 3, 4, 5, 6, 7, 8, 9, 10, 11, 12, 13, 14, 15, 16, 17, 18, 19, 20, 21, 58, 22, 59, 23, 24, 25, 26, 27, 28, 29, 30, 31, 32, 60, 61, 62, 63, 64, 65, 33, 34, 35, 36, 37, 38, 39, 40, 41, 42, 43, 44, 45, 46, 47, 48, 49, 50, 51, 52, 53, 54, 55, 56] (by decide +kernel) rfl
  have hP := hPx.comm
  have hD := hDx.comm
  refine lv_aload_n hx hb dL_law_883 rfl (lv_at hl 2 rfl) ?_
  refine lv_aload_n hx hb dL_law_884 rfl (lv_at hl 0 rfl) ?_
  refine lv_iload_n hx hb dL_law_885 rfl (lv_at hl 3 rfl) ?_
  refine lv_iconst (v := 1) hx hb dL_law_886 (by decide) ?_
  refine lv_iadd hx hb dL_law_887 ?_
  refine lv_topi (fun v14 ev14 => ?_)
  try have tv14 : v14.toInt = i.toInt + 1 := by rw [ev14]; exact (i_add (x := i) (y := (1 : Int32)) (by rw [k1]; omega) (by rw [k1]; omega)).trans (by rw [k1])
  refine va_sld hx hb hX hbl hbA hS (i_in (by omega) (by omega)) dL_law_888 ?_
  refine lv_topi (fun a15 ea15 => ?_)
  replace ea15 : xk1 = a15 := (ea15.trans (by rw [exk1]; congr 1; have := i_cl (x := v14) (by omega); have := i_cl (x := i) (by omega); omega)).symm
  subst ea15
  refine lv_aload_n hx hb dL_law_889 rfl (lv_at hl 0 rfl) ?_
  refine lv_iload_n hx hb dL_law_890 rfl (lv_at hl 3 rfl) ?_
  refine lv_iconst (v := 2) hx hb dL_law_891 (by decide) ?_
  refine lv_iadd hx hb dL_law_892 ?_
  refine lv_topi (fun v16 ev16 => ?_)
  try have tv16 : v16.toInt = i.toInt + 2 := by rw [ev16]; exact (i_add (x := i) (y := (2 : Int32)) (by rw [k2]; omega) (by rw [k2]; omega)).trans (by rw [k2])
  refine va_sld hx hb hX hbl hbA hS (i_in (by omega) (by omega)) dL_law_893 ?_
  refine lv_topi (fun a17 ea17 => ?_)
  replace ea17 : xk2 = a17 := (ea17.trans (by rw [exk2]; congr 1; have := i_cl (x := v16) (by omega); have := i_cl (x := i) (by omega); omega)).symm
  subst ea17
  refine lv_aload_n hx hb dL_law_894 rfl (lv_at hl 0 rfl) ?_
  refine lv_iload_n hx hb dL_law_895 rfl (lv_at hl 3 rfl) ?_
  refine lv_iconst (v := 3) hx hb dL_law_896 (by decide) ?_
  refine lv_iadd hx hb dL_law_897 ?_
  refine lv_topi (fun v18 ev18 => ?_)
  try have tv18 : v18.toInt = i.toInt + 3 := by rw [ev18]; exact (i_add (x := i) (y := (3 : Int32)) (by rw [k3]; omega) (by rw [k3]; omega)).trans (by rw [k3])
  refine va_sld hx hb hX hbl hbA hS (i_in (by omega) (by omega)) dL_law_898 ?_
  refine lv_topi (fun a19 ea19 => ?_)
  replace ea19 : xk3 = a19 := (ea19.trans (by rw [exk3]; congr 1; have := i_cl (x := v18) (by omega); have := i_cl (x := i) (by omega); omega)).symm
  subst ea19
  refine lv_aload_n hx hb dL_law_899 rfl (lv_at hl 0 rfl) ?_
  refine lv_iload_n hx hb dL_law_900 rfl (lv_at hl 3 rfl) ?_
  refine lv_iconst (v := 4) hx hb dL_law_901 (by decide) ?_
  refine lv_iadd hx hb dL_law_902 ?_
  refine lv_topi (fun v20 ev20 => ?_)
  try have tv20 : v20.toInt = i.toInt + 4 := by rw [ev20]; exact (i_add (x := i) (y := (4 : Int32)) (by rw [k4]; omega) (by rw [k4]; omega)).trans (by rw [k4])
  refine va_sld hx hb hX hbl hbA hS (i_in (by omega) (by omega)) dL_law_903 ?_
  refine lv_topi (fun a21 ea21 => ?_)
  replace ea21 : xk4 = a21 := (ea21.trans (by rw [exk4]; congr 1; have := i_cl (x := v20) (by omega); have := i_cl (x := i) (by omega); omega)).symm
  subst ea21
  refine lv_aload_n hx hb dL_law_904 rfl (lv_at hl 0 rfl) ?_
  refine lv_iload_n hx hb dL_law_905 rfl (lv_at hl 3 rfl) ?_
  refine lv_iconst (v := 5) hx hb dL_law_906 (by decide) ?_
  refine lv_iadd hx hb dL_law_907 ?_
  refine lv_topi (fun v22 ev22 => ?_)
  try have tv22 : v22.toInt = i.toInt + 5 := by rw [ev22]; exact (i_add (x := i) (y := (5 : Int32)) (by rw [k5]; omega) (by rw [k5]; omega)).trans (by rw [k5])
  refine va_sld hx hb hX hbl hbA hS (i_in (by omega) (by omega)) dL_law_908 ?_
  refine lv_topi (fun a23 ea23 => ?_)
  replace ea23 : xk5 = a23 := (ea23.trans (by rw [exk5]; congr 1; have := i_cl (x := v22) (by omega); have := i_cl (x := i) (by omega); omega)).symm
  subst ea23
  refine st_iQ (wr := [((md 3), .inl (cI, 8, .inl (fy 0))), ((md 4), .inl (cI, 8, .inl (fy 1))), ((md 5), .inl (cI, 480, .inl (fy 2))), ((md 7), .inl (cI, 40, .inl (fy 3))), ((md 8), .inl (cI, 40, .inl (fy 4))), ((md 9), .inl (cI, 40, .inl (fy 5))), ((md 10), .inl (cI, 40, .inl (fy 6))), ((md 11), .inl (cI, 200, .inl (fy 7))), ((md 12), .inl (cI, 12, .inl (fy 8))), ((md 13), .inl (cI, 12, .inl (fy 9))), ((md 14), .inl (cJ, 12, .inr (.inl fl))), ((md 16), .inl (cI, 12, .inl (fy 10))), ((md 19), .inl (cI, 40, .inl (fy 12))), ((md 20), .inl (cI, 40, .inl (fy 13))), ((md 21), .inl (cI, 40, .inl (fy 14))), ((md 22), .inl (cI, 40, .inl (fy 15))), ((md 23), .inl (cI, 40, .inl (fy 16))), ((md 31), .inl (cI, 36, .inl (fy 21))), ((md 33), .inl (cI, 36, .inl (fy 22))), ((md 34), .inl (cI, 300, .inl (fy 23))), ((md 45), .inl (cI, 60, .inl (fy 24))), ((md 46), .inl (cI, 60, .inl (fy 25))), ((md 47), .inl (cI, 60, .inl (fy 26))), ((md 48), .inl (cI, 60, .inl (fy 27))), ((md 49), .inl (cI, 6, .inl (fy 28))), ((md 50), .inl (cI, 6, .inl (fy 29))), ((md 51), .inl (cI, 12, .inl (fy 30))), ((md 53), .inl (cI, 60, .inl (fy 31))), ((md 54), .inl (cI, 60, .inl (fy 32))), ((md 55), .inl (cI, 60, .inl (fy 33))), ((md 56), .inl (cI, 60, .inl (fy 34))), ((md 58), .inl (cI, 20, .inl (fy 35))), ((md 59), .inl (cI, 20, .inl (fy 36))), ((md 60), .inl (cI, 20, .inl (fy 37))), ((md 62), .inl (cI, 16, .inl (fy 38)))]) (va_runV (C := RX11) (As := [.int xk1, .int xk2, .int xk3, .int xk4, .int xk5]) (rest := []) ⟨hx, hb, hml, hown, hts⟩ (ct_X11_rank l D cI cY cJ cQ _ md sd (ny 0) (ny 1) (ny 2) (ny 3) (ny 4) (ny 5) (ny 6) (ny 7) (ny 8) (ny 9) (ny 10) (ny 11) (ny 12) (ny 13) (ny 14) (ny 15) (ny 16) (ny 17) (ny 18) (ny 19) (ny 20) (ny 21) (ny 22) (fy 11) (fy 17) (fy 18) (fy 19) (fy 20) xk1 xk2 xk3 xk4 xk5 (by omega) (by omega) (by omega) (by omega)) (cwV 5 hts gL_law_X11_rank rfl rfl rfl ⟨rfl, cdX11_rank⟩ ⟨Nat.le_of_ble_eq_true rfl, Nat.le_of_ble_eq_true rfl⟩) (cPreV (hP.sub [0, 13, 19, 20, 21, 22] rfl) hK (hD.sub [0, 13, 19, 20, 21, 22] (by decide +kernel) rfl) hN (ci := 11) (q0 := 0) rfl rfl) rfl rfl hl.1 rfl (lv_room (Nat.le_of_ble_eq_true rfl)) dL_law_909 ⟨Nat.le_of_ble_eq_true rfl, Nat.le_of_ble_eq_true rfl⟩) hP hD hS hA [0, 13, 19, 20, 21, 22] [1, 2, 3, 4, 5, 6, 7, 8, 9, 10, 11, 12, 14, 15, 16, 17, 18, 23, 24, 25, 26, 27, 28, 29, 30, 31, 32, 33, 34, 35, 36, 37, 38, 39, 40] rfl rfl (by decide +kernel) (by decide +kernel) (fun r26 u24 H locs hw25 hP hD hS => ?_)
  replace hw25 : True := hw25
  refine lv_pop hx hb dL_law_912 rfl ?_
  refine lv_goto (tgt := 1652) hx hb dL_law_913 (by decide) ?_
  have hPm : va_P D vwCl (wM md sd cI cY cJ cQ (upd ny 0 0) fy fl ++ wX ad rw sd cI cY cJ cQ nx (upR fx 26 u11) rs lo) H := hP.part [35, 0, 1, 2, 3, 4, 5, 6, 7, 8, 9, 10, 11, 36, 12, 13, 14, 15, 16, 37, 38, 39, 40, 17, 18, 19, 20, 21, 22, 23, 24, 25, 26, 27, 28, 29, 30, 31, 32, 33, 34] rfl
  have hDm : va_D (fun q : Nat => s.heap.size ≤ q) (wM md sd cI cY cJ cQ (upd ny 0 0) fy fl ++ wX ad rw sd cI cY cJ cQ nx (upR fx 26 u11) rs lo) := hD.part [35, 0, 1, 2, 3, 4, 5, 6, 7, 8, 9, 10, 11, 36, 12, 13, 14, 15, 16, 37, 38, 39, 40, 17, 18, 19, 20, 21, 22, 23, 24, 25, 26, 27, 28, 29, 30, 31, 32, 33, 34] (by decide +kernel) rfl
  exact kk nx (upR fx 26 u11) rs lo (upd ny 0 0) fy fl H locs ls ⟨Xhna, Xhnb, XH, Xcna, Xcnb, Xpna, Xpnb, XO, Xgna, Xgnb, Xlna, Xlnb, Xdla, Xdlb, Xana, Xanb, Xuna, Xunb, Xlca, Xlcb, Xtna, Xtnb, XS, Mhna, Mhnb, MH, MS, Mmlna, Mmlnb, Mmtna, Mmtnb, Ccn, Cfo, Cwo, Cpn, Cpk, Cpf, Cpo, Cpd, Cpe, Cgn, Cgk, Cgs, Cgd, Cge, Can, Cak, Cah, Cay, Caz, Cun, Cuk, Cuy, Cuw, Cum, Clc, Clp, Cla, Clb, Caw, Ciw, Cln, Ctd⟩ hPm.comm hDm.comm hS hl
