-- deps: B5.x
theorem gL_law_X11_init : GoodIn lw_tbl (wsX11_init) := wl_X11_init
theorem gL_law_X12_init : GoodIn lw_tbl (wsX12_init) := wl_X12_init
theorem gL_law_X11_letters : GoodIn lw_tbl (wsV RL 13 RX11 yX11_letters wsX11_letters) := wn_a (wn_c wd_171 (wn_c wd_172 (wn_c wd_173 (wn_c wd_166 wn_0)))) wl_X11_letters
theorem gL_law_X12_letters : GoodIn lw_tbl (wsV RL 17 RX12 yX12_letters wsX12_letters) := wn_a (wn_c wd_181 (wn_c wd_182 (wn_c wd_183 (wn_c wd_175 wn_0)))) wl_X12_letters
theorem gL_law_X11_letter : GoodIn lw_tbl (wsV RL 18 RX11 yX11_letter wsX11_letter) := wn_a (wn_c wd_194 (wn_c wd_195 (wn_c wd_196 (wn_c wd_166 wn_0)))) wl_X11_letter
theorem gL_law_X12_letter : GoodIn lw_tbl (wsV RL 21 RX12 yX12_letter wsX12_letter) := wn_a (wn_c wd_198 (wn_c wd_199 (wn_c wd_200 (wn_c wd_175 wn_0)))) wl_X12_letter
theorem gL_law_X11_clear : GoodIn lw_tbl (wsV RL 22 RX11 yX11_clear wsX11_clear) := wn_a (wn_c wd_202 (wn_c wd_203 (wn_c wd_204 (wn_c wd_166 wn_0)))) wl_X11_clear
theorem gL_law_X12_clear : GoodIn lw_tbl (wsV RL 26 RX12 yX12_clear wsX12_clear) := wn_a (wn_c wd_206 (wn_c wd_207 (wn_c wd_208 (wn_c wd_175 wn_0)))) wl_X12_clear
theorem gL_law_X11_slot : GoodIn lw_tbl (wsV RL 27 RX11 yX11_slot wsX11_slot) := wn_a (wn_c wd_221 (wn_c wd_222 (wn_c wd_223 (wn_c wd_166 wn_0)))) wl_X11_slot
theorem gL_law_X12_slot : GoodIn lw_tbl (wsV RL 30 RX12 yX12_slot wsX12_slot) := wn_a (wn_c wd_233 (wn_c wd_234 (wn_c wd_235 (wn_c wd_175 wn_0)))) wl_X12_slot
theorem gL_law_X11_at : GoodIn lw_tbl (wsV RL 31 RX11 yX11_at wsX11_at) := wn_a (wn_c wd_241 (wn_c wd_242 (wn_c wd_243 (wn_c wd_166 wn_0)))) wl_X11_at
theorem gL_law_X12_at : GoodIn lw_tbl (wsV RL 35 RX12 yX12_at wsX12_at) := wn_a (wn_c wd_245 (wn_c wd_246 (wn_c wd_247 (wn_c wd_175 wn_0)))) wl_X12_at
theorem gL_law_X11_length : GoodIn lw_tbl (wsV RL 36 RX11 yX11_length wsX11_length) := wn_a (wn_c wd_249 (wn_c wd_250 (wn_c wd_251 (wn_c wd_166 wn_0)))) wl_X11_length
theorem gL_law_X12_length : GoodIn lw_tbl (wsV RL 39 RX12 yX12_length wsX12_length) := wn_a (wn_c wd_253 (wn_c wd_254 (wn_c wd_255 (wn_c wd_175 wn_0)))) wl_X12_length
theorem gL_law_X11_law : GoodIn lw_tbl (wsV RL 40 RX11 yX11_law wsX11_law) := wn_a (wn_c wd_257 (wn_c wd_258 (wn_c wd_259 (wn_c wd_166 wn_0)))) wl_X11_law
theorem gL_law_X12_law : GoodIn lw_tbl (wsV RL 43 RX12 yX12_law wsX12_law) := wn_a (wn_c wd_261 (wn_c wd_262 (wn_c wd_263 (wn_c wd_175 wn_0)))) wl_X12_law
theorem gL_law_X11_free : GoodIn lw_tbl (wsV RL 44 RX11 yX11_free wsX11_free) := wn_a (wn_c wd_265 (wn_c wd_266 (wn_c wd_267 (wn_c wd_166 wn_0)))) wl_X11_free
theorem gL_law_X12_free : GoodIn lw_tbl (wsV RL 47 RX12 yX12_free wsX12_free) := wn_a (wn_c wd_269 (wn_c wd_270 (wn_c wd_271 (wn_c wd_175 wn_0)))) wl_X12_free
theorem gL_law_X11_see : GoodIn lw_tbl (wsV RL 48 RX11 yX11_see wsX11_see) := wn_a (wn_c wd_643 (wn_c wd_644 (wn_c wd_645 (wn_c wd_166 wn_0)))) wl_X11_see
theorem gL_law_X12_see : GoodIn lw_tbl (wsV RL 51 RX12 yX12_see wsX12_see) := wn_a (wn_c wd_767 (wn_c wd_768 (wn_c wd_769 (wn_c wd_175 wn_0)))) wl_X12_see
theorem gL_law_X11_seen : GoodIn lw_tbl (wsV RL 52 RX11 yX11_seen wsX11_seen) := wn_a (wn_c wd_775 (wn_c wd_776 (wn_c wd_777 (wn_c wd_166 wn_0)))) wl_X11_seen
theorem gL_law_X12_seen : GoodIn lw_tbl (wsV RL 55 RX12 yX12_seen wsX12_seen) := wn_a (wn_c wd_779 (wn_c wd_780 (wn_c wd_781 (wn_c wd_175 wn_0)))) wl_X12_seen
theorem gL_law_X11_least : GoodIn lw_tbl (wsV RL 56 RX11 yX11_least wsX11_least) := wn_a (wn_c wd_784 (wn_c wd_785 (wn_c wd_786 (wn_c wd_166 wn_0)))) wl_X11_least
theorem gL_law_X12_least : GoodIn lw_tbl (wsV RL 59 RX12 yX12_least wsX12_least) := wn_a (wn_c wd_788 (wn_c wd_789 (wn_c wd_790 (wn_c wd_175 wn_0)))) wl_X12_least
theorem gL_law_X11_rule : GoodIn lw_tbl (wsV RL 60 RX11 yX11_rule wsX11_rule) := wn_a (wn_c wd_798 (wn_c wd_799 (wn_c wd_800 (wn_c wd_166 wn_0)))) wl_X11_rule
theorem gL_law_X12_rule : GoodIn lw_tbl (wsV RL 64 RX12 yX12_rule wsX12_rule) := wn_a (wn_c wd_802 (wn_c wd_803 (wn_c wd_804 (wn_c wd_175 wn_0)))) wl_X12_rule
theorem gL_law_X11_closed : GoodIn lw_tbl (wsV RL 65 RX11 yX11_closed wsX11_closed) := wn_a (wn_c wd_806 (wn_c wd_807 (wn_c wd_808 (wn_c wd_166 wn_0)))) wl_X11_closed
theorem gL_law_X12_closed : GoodIn lw_tbl (wsV RL 68 RX12 yX12_closed wsX12_closed) := wn_a (wn_c wd_810 (wn_c wd_811 (wn_c wd_812 (wn_c wd_175 wn_0)))) wl_X12_closed
theorem gL_law_X11_reduce : GoodIn lw_tbl (wsV RL 69 RX11 yX11_reduce wsX11_reduce) := wn_a (wn_c wd_832 (wn_c wd_833 (wn_c wd_834 (wn_c wd_166 wn_0)))) wl_X11_reduce
theorem gL_law_X12_reduce : GoodIn lw_tbl (wsV RL 72 RX12 yX12_reduce wsX12_reduce) := wn_a (wn_c wd_840 (wn_c wd_841 (wn_c wd_842 (wn_c wd_175 wn_0)))) wl_X12_reduce
theorem gL_law_X11_like : GoodIn lw_tbl (wsV RL 73 RX11 yX11_like wsX11_like) := wn_a (wn_c wd_845 (wn_c wd_846 (wn_c wd_847 (wn_c wd_166 wn_0)))) wl_X11_like
theorem gL_law_X12_like : GoodIn lw_tbl (wsV RL 76 RX12 yX12_like wsX12_like) := wn_a (wn_c wd_849 (wn_c wd_850 (wn_c wd_851 (wn_c wd_175 wn_0)))) wl_X12_like
theorem gL_law_X11_states : GoodIn lw_tbl (wsV RL 77 RX11 yX11_states wsX11_states) := wn_a (wn_c wd_858 (wn_c wd_859 (wn_c wd_860 (wn_c wd_166 wn_0)))) wl_X11_states
theorem gL_law_X12_states : GoodIn lw_tbl (wsV RL 80 RX12 yX12_states wsX12_states) := wn_a (wn_c wd_866 (wn_c wd_867 (wn_c wd_868 (wn_c wd_175 wn_0)))) wl_X12_states
theorem gL_law_X11_leads : GoodIn lw_tbl (wsV RL 81 RX11 yX11_leads wsX11_leads) := wn_a (wn_c wd_875 (wn_c wd_876 (wn_c wd_877 (wn_c wd_166 wn_0)))) wl_X11_leads
theorem gL_law_X12_leads : GoodIn lw_tbl (wsV RL 84 RX12 yX12_leads wsX12_leads) := wn_a (wn_c wd_879 (wn_c wd_880 (wn_c wd_881 (wn_c wd_175 wn_0)))) wl_X12_leads
theorem gL_law_X11_count : GoodIn lw_tbl (wsV RL 85 RX11 yX11_count wsX11_count) := wn_a (wn_c wd_886 (wn_c wd_887 (wn_c wd_888 (wn_c wd_166 wn_0)))) wl_X11_count
theorem gL_law_X12_count : GoodIn lw_tbl (wsV RL 89 RX12 yX12_count wsX12_count) := wn_a (wn_c wd_893 (wn_c wd_894 (wn_c wd_895 (wn_c wd_175 wn_0)))) wl_X12_count
theorem gL_law_X11_size : GoodIn lw_tbl (wsV RL 90 RX11 yX11_size wsX11_size) := wn_a (wn_c wd_904 (wn_c wd_905 (wn_c wd_906 (wn_c wd_166 wn_0)))) wl_X11_size
theorem gL_law_X12_size : GoodIn lw_tbl (wsV RL 94 RX12 yX12_size wsX12_size) := wn_a (wn_c wd_914 (wn_c wd_915 (wn_c wd_916 (wn_c wd_175 wn_0)))) wl_X12_size
theorem gL_law_X11_nth : GoodIn lw_tbl (wsV RL 97 RX11 yX11_nth wsX11_nth) := wn_a (wn_c wd_933 (wn_c wd_934 (wn_c wd_935 (wn_c wd_166 wn_0)))) wl_X11_nth
theorem gL_law_X12_nth : GoodIn lw_tbl (wsV RL 101 RX12 yX12_nth wsX12_nth) := wn_a (wn_c wd_945 (wn_c wd_946 (wn_c wd_947 (wn_c wd_175 wn_0)))) wl_X12_nth
theorem gL_law_X11_rank : GoodIn lw_tbl (wsV RL 102 RX11 yX11_rank wsX11_rank) := wn_a (wn_c wd_955 (wn_c wd_956 (wn_c wd_957 (wn_c wd_166 wn_0)))) wl_X11_rank
theorem gL_law_X12_rank : GoodIn lw_tbl (wsV RL 105 RX12 yX12_rank wsX12_rank) := wn_a (wn_c wd_960 (wn_c wd_961 (wn_c wd_962 (wn_c wd_175 wn_0)))) wl_X12_rank
theorem gL_law_X11_power : GoodIn lw_tbl (wsV RL 106 RX11 yX11_power wsX11_power) := wn_a (wn_c wd_969 (wn_c wd_970 (wn_c wd_971 (wn_c wd_166 wn_0)))) wl_X11_power
theorem gL_law_X12_power : GoodIn lw_tbl (wsV RL 110 RX12 yX12_power wsX12_power) := wn_a (wn_c wd_982 (wn_c wd_983 (wn_c wd_984 (wn_c wd_175 wn_0)))) wl_X12_power
theorem gL_law_X11_order : GoodIn lw_tbl (wsV RL 111 RX11 yX11_order wsX11_order) := wn_a (wn_c wd_986 (wn_c wd_987 (wn_c wd_988 (wn_c wd_166 wn_0)))) wl_X11_order
theorem gL_law_X12_order : GoodIn lw_tbl (wsV RL 114 RX12 yX12_order wsX12_order) := wn_a (wn_c wd_990 (wn_c wd_991 (wn_c wd_992 (wn_c wd_175 wn_0)))) wl_X12_order
theorem gL_law_X11_inverse : GoodIn lw_tbl (wsV RL 115 RX11 yX11_inverse wsX11_inverse) := wn_a (wn_c wd_1017 (wn_c wd_1018 (wn_c wd_1019 (wn_c wd_166 wn_0)))) wl_X11_inverse
theorem gL_law_X12_inverse : GoodIn lw_tbl (wsV RL 118 RX12 yX12_inverse wsX12_inverse) := wn_a (wn_c wd_1021 (wn_c wd_1022 (wn_c wd_1023 (wn_c wd_175 wn_0)))) wl_X12_inverse
theorem gL_law_X11_makes : GoodIn lw_tbl (wsV RL 119 RX11 yX11_makes wsX11_makes) := wn_a (wn_c wd_1047 (wn_c wd_1048 (wn_c wd_1049 (wn_c wd_166 wn_0)))) wl_X11_makes
theorem gL_law_X12_makes : GoodIn lw_tbl (wsV RL 122 RX12 yX12_makes wsX12_makes) := wn_a (wn_c wd_1060 (wn_c wd_1061 (wn_c wd_1062 (wn_c wd_175 wn_0)))) wl_X12_makes
theorem gL_law_X11_total : GoodIn lw_tbl (wsV RL 123 RX11 yX11_total wsX11_total) := wn_a (wn_c wd_1064 (wn_c wd_1065 (wn_c wd_1066 (wn_c wd_166 wn_0)))) wl_X11_total
theorem gL_law_X12_total : GoodIn lw_tbl (wsV RL 126 RX12 yX12_total wsX12_total) := wn_a (wn_c wd_1068 (wn_c wd_1069 (wn_c wd_1070 (wn_c wd_175 wn_0)))) wl_X12_total
theorem we_c : (.constantLong RL 95 (4294967295) : Cond) ∈ lw_tbl := wp_6 (List.mem_of_getElem? (i := 127) rfl)
theorem we_n11 : (.classLink RL 7 RX11 : Cond) ∈ lw_tbl := wp_1 (List.mem_of_getElem? (i := 15) rfl)
theorem we_z11 : (.initialized RX11 : Cond) ∈ lw_tbl := wp_1 (List.mem_of_getElem? (i := 1) rfl)
theorem we_n12 : (.classLink RL 10 RX12 : Cond) ∈ lw_tbl := wp_4 (List.mem_of_getElem? (i := 225) rfl)
theorem we_z12 : (.initialized RX12 : Cond) ∈ lw_tbl := wp_1 (List.mem_of_getElem? (i := 12) rfl)
theorem we_m11 : (.methodLink RL 9 yX11_init : Cond) ∈ lw_tbl := wp_1 (List.mem_of_getElem? (i := 17) rfl)
theorem we_o11 : (.instanceMethod yX11_init : Cond) ∈ lw_tbl := wp_1 (List.mem_of_getElem? (i := 18) rfl)
theorem we_m12 : (.methodLink RL 12 yX12_init : Cond) ∈ lw_tbl := wp_4 (List.mem_of_getElem? (i := 227) rfl)
theorem we_o12 : (.instanceMethod yX12_init : Cond) ∈ lw_tbl := wp_4 (List.mem_of_getElem? (i := 228) rfl)
theorem we_h0 : (.methodLinkNest RX0 181 yX11_moveDown RX11 : Cond) ∈ lw_tbl := wp_3 (List.mem_of_getElem? (i := 226) rfl)
theorem we_h3 : (.methodLinkNest RX3 69 yX11_placeOf RX11 : Cond) ∈ lw_tbl := wp_2 (List.mem_of_getElem? (i := 215) rfl)
theorem we_h7 : (.methodLinkNest RX7 87 yX11_placeOf RX11 : Cond) ∈ lw_tbl := wp_2 (List.mem_of_getElem? (i := 238) rfl)
theorem we_aI : (.arrayClass .int : Cond) ∈ lw_tbl := wp_1 (List.mem_of_getElem? (i := 53) rfl)
theorem we_aJ : (.arrayClass .long : Cond) ∈ lw_tbl := wp_1 (List.mem_of_getElem? (i := 130) rfl)
theorem we_aZ : (.arrayClass .boolean : Cond) ∈ lw_tbl := wp_3 (List.mem_of_getElem? (i := 83) rfl)
theorem we_ao : (.arrayOver (.object RX10) : Cond) ∈ lw_tbl := wp_1 (List.mem_of_getElem? (i := 81) rfl)
theorem we_k0 : (.instantiable RX0 15 : Cond) ∈ lw_tbl := wp_3 (List.mem_of_getElem? (i := 41) rfl)
theorem we_k1 : (.instantiable RX1 3 : Cond) ∈ lw_tbl := wp_1 (List.mem_of_getElem? (i := 83) rfl)
theorem we_k2 : (.instantiable RX2 7 : Cond) ∈ lw_tbl := wp_3 (List.mem_of_getElem? (i := 49) rfl)
theorem we_k3 : (.instantiable RX3 10 : Cond) ∈ lw_tbl := wp_1 (List.mem_of_getElem? (i := 132) rfl)
theorem we_k4 : (.instantiable RX4 3 : Cond) ∈ lw_tbl := wp_1 (List.mem_of_getElem? (i := 236) rfl)
theorem we_k5 : (.instantiable RX5 4 : Cond) ∈ lw_tbl := wp_1 (List.mem_of_getElem? (i := 198) rfl)
theorem we_k6 : (.instantiable RX6 6 : Cond) ∈ lw_tbl := wp_1 (List.mem_of_getElem? (i := 173) rfl)
theorem we_k7 : (.instantiable RX7 7 : Cond) ∈ lw_tbl := wp_1 (List.mem_of_getElem? (i := 100) rfl)
theorem we_k8 : (.instantiable RX8 4 : Cond) ∈ lw_tbl := wp_1 (List.mem_of_getElem? (i := 24) rfl)
theorem we_k9 : (.instantiable RX9 3 : Cond) ∈ lw_tbl := wp_1 (List.mem_of_getElem? (i := 217) rfl)
theorem we_k10 : (.instantiable RX10 2 : Cond) ∈ lw_tbl := wp_1 (List.mem_of_getElem? (i := 55) rfl)
theorem we_k11 : (.instantiable RX11 17 : Cond) ∈ lw_tbl := wp_1 (List.mem_of_getElem? (i := 16) rfl)
theorem we_k12 : (.instantiable RX12 34 : Cond) ∈ lw_tbl := wp_4 (List.mem_of_getElem? (i := 226) rfl)
