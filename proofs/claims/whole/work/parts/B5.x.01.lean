-- deps: B5.w
theorem wl_X11_makes_r13 : GoodIn lw_tbl wsX11_makes_r13 := by
  unfold wsX11_makes_r13
  exact wn_c wd_1045 (wn_c wd_1044 (wn_c wd_1043 wn_0))
theorem wl_X11_makes : GoodIn lw_tbl wsX11_makes := by
  unfold wsX11_makes
  exact wn_c wd_1046 (wn_a (wn_a (wn_a (wn_a (wn_a (wn_a (wn_a (wn_a (wn_a (wn_a (wl_X11_makes_r1) (wn_a (wl_X11_makes_r2) (wn_a (wl_X11_makes_r3) (wn_a (wl_X11_makes_r4) (wn_a (wl_X11_makes_r5) (wn_a (wl_X11_makes_r6) (wn_a (wl_X11_makes_r7) (wn_a (wl_X11_makes_r8) (wn_a (wl_X11_makes_r9) (wn_a (wl_X11_makes_r10) (wn_a (wl_X11_makes_r11) (wn_a (wl_X11_makes_r12) (wl_X11_makes_r13))))))))))))) (wt_11)) (wt_4)) (wt_6)) (wt_10)) (wt_0)) (wt_3)) (wt_8)) (wt_7)) (wt_2))
theorem wl_X12_makes_r1 : GoodIn lw_tbl wsX12_makes_r1 := by
  unfold wsX12_makes_r1
  exact wn_c wd_1050 (wn_c wd_144 (wn_c wd_147 (wn_c wd_148 (wn_c wd_231 (wn_c wd_230 (wn_c wd_175 (wn_c wd_229 (wn_c wd_228 (wn_c wd_177 (wn_c wd_176 (wn_c wd_174 (wn_c wd_864 (wn_c wd_863 (wn_c wd_862 (wn_c wd_861 (wn_c wd_140 (wn_c wd_657 (wn_c wd_227 (wn_c wd_226 (wn_c wd_225 (wn_c wd_224 (wn_c wd_143 (wn_c wd_724 wn_0)))))))))))))))))))))))
theorem wl_X12_makes_r2 : GoodIn lw_tbl wsX12_makes_r2 := by
  unfold wsX12_makes_r2
  exact wn_c wd_723 (wn_c wd_722 (wn_c wd_721 (wn_c wd_153 (wn_c wd_131 (wn_c wd_129 (wn_c wd_136 (wn_c wd_134 (wn_c wd_133 (wn_c wd_1054 (wn_c wd_1053 (wn_c wd_1052 (wn_c wd_1051 (wn_c wd_732 (wn_c wd_731 (wn_c wd_730 (wn_c wd_729 (wn_c wd_980 (wn_c wd_979 (wn_c wd_978 (wn_c wd_977 (wn_c wd_976 (wn_c wd_975 (wn_c wd_974 wn_0)))))))))))))))))))))))
theorem wl_X12_makes_r3 : GoodIn lw_tbl wsX12_makes_r3 := by
  unfold wsX12_makes_r3
  exact wn_c wd_973 (wn_c wd_1058 (wn_c wd_1057 (wn_c wd_1056 (wn_c wd_1055 wn_0))))
theorem wl_X12_makes : GoodIn lw_tbl wsX12_makes := by
  unfold wsX12_makes
  exact wn_c wd_1059 (wn_a (wn_a (wl_X12_makes_r1) (wn_a (wl_X12_makes_r2) (wl_X12_makes_r3))) (wt_12))
theorem wl_X11_total : GoodIn lw_tbl wsX11_total := by
  unfold wsX11_total
  exact wn_c wd_1063 (wn_a (wn_a (wn_a (wn_a (wn_c wd_17 (wn_c wd_162 (wn_c wd_161 (wn_c wd_3 (wn_c wd_276 (wn_c wd_13 (wn_c wd_192 (wn_c wd_773 (wn_c wd_772 (wn_c wd_771 (wn_c wd_166 (wn_c wd_770 (wn_c wd_164 wn_0))))))))))))) (wt_11)) (wt_8)) (wt_7)) (wt_10))
theorem wl_X12_total : GoodIn lw_tbl wsX12_total := by
  unfold wsX12_total
  exact wn_c wd_1067 (wn_a (wn_c wd_145 (wn_c wd_178 (wn_c wd_140 (wn_c wd_656 (wn_c wd_144 wn_0))))) (wt_12))
