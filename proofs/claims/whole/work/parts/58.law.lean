theorem mi_123 : Cond.methodLink RL 13 yX6_feed ∈ gx_TB := List.mem_filter.mpr ⟨List.mem_append_right _ (List.mem_of_getElem? (i := 123) (by decide +kernel)), by decide +kernel⟩
theorem mi_124 : Cond.instanceMethod yX6_feed ∈ gx_TB := List.mem_filter.mpr ⟨List.mem_append_right _ (List.mem_of_getElem? (i := 124) (by decide +kernel)), by decide +kernel⟩
theorem mi_125 : Cond.selects RX6 yX6_feed yX6_feed ∈ gx_TB := List.mem_filter.mpr ⟨List.mem_append_right _ (List.mem_of_getElem? (i := 125) (by decide +kernel)), by decide +kernel⟩
set_option maxRecDepth 100000 in
theorem mi_126 : Cond.code yX6_feed cX6_feed 6 (some .int) ∈ gx_TB := List.mem_filter.mpr ⟨List.mem_append_right _ (List.mem_of_getElem? (i := 126) rfl), by decide +kernel⟩
theorem mi_139 : Cond.methodLink RL 18 yX6_end ∈ gx_TB := List.mem_filter.mpr ⟨List.mem_append_right _ (List.mem_of_getElem? (i := 139) (by decide +kernel)), by decide +kernel⟩
theorem mi_140 : Cond.instanceMethod yX6_end ∈ gx_TB := List.mem_filter.mpr ⟨List.mem_append_right _ (List.mem_of_getElem? (i := 140) (by decide +kernel)), by decide +kernel⟩
theorem mi_141 : Cond.selects RX6 yX6_end yX6_end ∈ gx_TB := List.mem_filter.mpr ⟨List.mem_append_right _ (List.mem_of_getElem? (i := 141) (by decide +kernel)), by decide +kernel⟩
set_option maxRecDepth 100000 in
theorem mi_142 : Cond.code yX6_end cX6_end 2 (some .int) ∈ gx_TB := List.mem_filter.mpr ⟨List.mem_append_right _ (List.mem_of_getElem? (i := 142) rfl), by decide +kernel⟩
theorem mi_147 : Cond.methodLink RL 23 yX6_message ∈ gx_TB := List.mem_filter.mpr ⟨List.mem_append_right _ (List.mem_of_getElem? (i := 147) (by decide +kernel)), by decide +kernel⟩
theorem mi_148 : Cond.instanceMethod yX6_message ∈ gx_TB := List.mem_filter.mpr ⟨List.mem_append_right _ (List.mem_of_getElem? (i := 148) (by decide +kernel)), by decide +kernel⟩
theorem mi_149 : Cond.selects RX6 yX6_message yX6_message ∈ gx_TB := List.mem_filter.mpr ⟨List.mem_append_right _ (List.mem_of_getElem? (i := 149) (by decide +kernel)), by decide +kernel⟩
set_option maxRecDepth 100000 in
theorem mi_150 : Cond.code yX6_message cX6_message 2 (some .int) ∈ gx_TB := List.mem_filter.mpr ⟨List.mem_append_right _ (List.mem_of_getElem? (i := 150) rfl), by decide +kernel⟩
theorem mi_201 : Cond.methodLink RL 28 yX6_plainBody ∈ gx_TB := List.mem_filter.mpr ⟨List.mem_append_right _ (List.mem_of_getElem? (i := 201) (by decide +kernel)), by decide +kernel⟩
theorem mi_202 : Cond.instanceMethod yX6_plainBody ∈ gx_TB := List.mem_filter.mpr ⟨List.mem_append_right _ (List.mem_of_getElem? (i := 202) (by decide +kernel)), by decide +kernel⟩
theorem mi_203 : Cond.selects RX6 yX6_plainBody yX6_plainBody ∈ gx_TB := List.mem_filter.mpr ⟨List.mem_append_right _ (List.mem_of_getElem? (i := 203) (by decide +kernel)), by decide +kernel⟩
set_option maxRecDepth 100000 in
theorem mi_204 : Cond.code yX6_plainBody cX6_plainBody 2 (some .int) ∈ gx_TB := List.mem_filter.mpr ⟨List.mem_append_right _ (List.mem_of_getElem? (i := 204) rfl), by decide +kernel⟩
theorem mi_219 : Cond.methodLink RL 33 yX6_plainField ∈ gx_TB := List.mem_filter.mpr ⟨List.mem_append_right _ (List.mem_of_getElem? (i := 219) (by decide +kernel)), by decide +kernel⟩
theorem mi_220 : Cond.instanceMethod yX6_plainField ∈ gx_TB := List.mem_filter.mpr ⟨List.mem_append_right _ (List.mem_of_getElem? (i := 220) (by decide +kernel)), by decide +kernel⟩
theorem mi_221 : Cond.selects RX6 yX6_plainField yX6_plainField ∈ gx_TB := List.mem_filter.mpr ⟨List.mem_append_right _ (List.mem_of_getElem? (i := 221) (by decide +kernel)), by decide +kernel⟩
set_option maxRecDepth 100000 in
theorem mi_222 : Cond.code yX6_plainField cX6_plainField 3 (some .int) ∈ gx_TB := List.mem_filter.mpr ⟨List.mem_append_right _ (List.mem_of_getElem? (i := 222) rfl), by decide +kernel⟩
theorem mi_244 : Cond.methodLink RL 38 yX6_named ∈ gx_TB := List.mem_filter.mpr ⟨List.mem_append_right _ (List.mem_of_getElem? (i := 244) (by decide +kernel)), by decide +kernel⟩
theorem mi_245 : Cond.instanceMethod yX6_named ∈ gx_TB := List.mem_filter.mpr ⟨List.mem_append_right _ (List.mem_of_getElem? (i := 245) (by decide +kernel)), by decide +kernel⟩
theorem mi_246 : Cond.selects RX6 yX6_named yX6_named ∈ gx_TB := List.mem_filter.mpr ⟨List.mem_append_right _ (List.mem_of_getElem? (i := 246) (by decide +kernel)), by decide +kernel⟩
set_option maxRecDepth 100000 in
theorem mi_247 : Cond.code yX6_named cX6_named 2 (some .int) ∈ gx_TB := List.mem_filter.mpr ⟨List.mem_append_right _ (List.mem_of_getElem? (i := 247) rfl), by decide +kernel⟩
theorem mi_256 : Cond.methodLink RL 42 yX6_tags ∈ gx_TB := List.mem_filter.mpr ⟨List.mem_append_right _ (List.mem_of_getElem? (i := 256) (by decide +kernel)), by decide +kernel⟩
theorem mi_257 : Cond.instanceMethod yX6_tags ∈ gx_TB := List.mem_filter.mpr ⟨List.mem_append_right _ (List.mem_of_getElem? (i := 257) (by decide +kernel)), by decide +kernel⟩
theorem mi_258 : Cond.selects RX6 yX6_tags yX6_tags ∈ gx_TB := List.mem_filter.mpr ⟨List.mem_append_right _ (List.mem_of_getElem? (i := 258) (by decide +kernel)), by decide +kernel⟩
set_option maxRecDepth 100000 in
theorem mi_259 : Cond.code yX6_tags cX6_tags 2 (some .int) ∈ gx_TB := List.mem_filter.mpr ⟨List.mem_append_right _ (List.mem_of_getElem? (i := 259) rfl), by decide +kernel⟩
theorem mi_290 : Cond.methodLink RL 46 yX6_tag ∈ gx_TB := List.mem_filter.mpr ⟨List.mem_append_right _ (List.mem_of_getElem? (i := 290) (by decide +kernel)), by decide +kernel⟩
theorem mi_291 : Cond.instanceMethod yX6_tag ∈ gx_TB := List.mem_filter.mpr ⟨List.mem_append_right _ (List.mem_of_getElem? (i := 291) (by decide +kernel)), by decide +kernel⟩
theorem mi_292 : Cond.selects RX6 yX6_tag yX6_tag ∈ gx_TB := List.mem_filter.mpr ⟨List.mem_append_right _ (List.mem_of_getElem? (i := 292) (by decide +kernel)), by decide +kernel⟩
set_option maxRecDepth 100000 in
theorem mi_293 : Cond.code yX6_tag cX6_tag 2 (some .int) ∈ gx_TB := List.mem_filter.mpr ⟨List.mem_append_right _ (List.mem_of_getElem? (i := 293) rfl), by decide +kernel⟩
theorem mi_300 : Cond.methodLink RL 50 yX6_decode ∈ gx_TB := List.mem_filter.mpr ⟨List.mem_append_right _ (List.mem_of_getElem? (i := 300) (by decide +kernel)), by decide +kernel⟩
theorem mi_301 : Cond.instanceMethod yX6_decode ∈ gx_TB := List.mem_filter.mpr ⟨List.mem_append_right _ (List.mem_of_getElem? (i := 301) (by decide +kernel)), by decide +kernel⟩
theorem mi_302 : Cond.selects RX6 yX6_decode yX6_decode ∈ gx_TB := List.mem_filter.mpr ⟨List.mem_append_right _ (List.mem_of_getElem? (i := 302) (by decide +kernel)), by decide +kernel⟩
set_option maxRecDepth 100000 in
theorem mi_303 : Cond.code yX6_decode cX6_decode 3 (some .int) ∈ gx_TB := List.mem_filter.mpr ⟨List.mem_append_right _ (List.mem_of_getElem? (i := 303) rfl), by decide +kernel⟩
theorem mi_326 : Cond.methodLink RL 54 yX6_digest ∈ gx_TB := List.mem_filter.mpr ⟨List.mem_append_right _ (List.mem_of_getElem? (i := 326) (by decide +kernel)), by decide +kernel⟩
theorem mi_327 : Cond.instanceMethod yX6_digest ∈ gx_TB := List.mem_filter.mpr ⟨List.mem_append_right _ (List.mem_of_getElem? (i := 327) (by decide +kernel)), by decide +kernel⟩
theorem mi_328 : Cond.selects RX6 yX6_digest yX6_digest ∈ gx_TB := List.mem_filter.mpr ⟨List.mem_append_right _ (List.mem_of_getElem? (i := 328) (by decide +kernel)), by decide +kernel⟩
set_option maxRecDepth 100000 in
theorem mi_329 : Cond.code yX6_digest cX6_digest 1 (some .int) ∈ gx_TB := List.mem_filter.mpr ⟨List.mem_append_right _ (List.mem_of_getElem? (i := 329) rfl), by decide +kernel⟩
theorem mi_366 : Cond.methodLink RL 58 yX6_power ∈ gx_TB := List.mem_filter.mpr ⟨List.mem_append_right _ (List.mem_of_getElem? (i := 366) (by decide +kernel)), by decide +kernel⟩
theorem mi_367 : Cond.instanceMethod yX6_power ∈ gx_TB := List.mem_filter.mpr ⟨List.mem_append_right _ (List.mem_of_getElem? (i := 367) (by decide +kernel)), by decide +kernel⟩
theorem mi_368 : Cond.selects RX6 yX6_power yX6_power ∈ gx_TB := List.mem_filter.mpr ⟨List.mem_append_right _ (List.mem_of_getElem? (i := 368) (by decide +kernel)), by decide +kernel⟩
set_option maxRecDepth 100000 in
theorem mi_369 : Cond.code yX6_power cX6_power 2 (some .int) ∈ gx_TB := List.mem_filter.mpr ⟨List.mem_append_right _ (List.mem_of_getElem? (i := 369) rfl), by decide +kernel⟩
theorem mi_422 : Cond.methodLink RL 62 yX6_octet ∈ gx_TB := List.mem_filter.mpr ⟨List.mem_append_right _ (List.mem_of_getElem? (i := 422) (by decide +kernel)), by decide +kernel⟩
theorem mi_423 : Cond.instanceMethod yX6_octet ∈ gx_TB := List.mem_filter.mpr ⟨List.mem_append_right _ (List.mem_of_getElem? (i := 423) (by decide +kernel)), by decide +kernel⟩
theorem mi_424 : Cond.selects RX6 yX6_octet yX6_octet ∈ gx_TB := List.mem_filter.mpr ⟨List.mem_append_right _ (List.mem_of_getElem? (i := 424) (by decide +kernel)), by decide +kernel⟩
set_option maxRecDepth 100000 in
theorem mi_425 : Cond.code yX6_octet cX6_octet 2 (some .int) ∈ gx_TB := List.mem_filter.mpr ⟨List.mem_append_right _ (List.mem_of_getElem? (i := 425) rfl), by decide +kernel⟩
theorem mi_606 : Cond.methodLink RL 17 yX10_feed ∈ gx_TB := List.mem_filter.mpr ⟨List.mem_append_right _ (List.mem_of_getElem? (i := 606) (by decide +kernel)), by decide +kernel⟩
theorem mi_607 : Cond.instanceMethod yX10_feed ∈ gx_TB := List.mem_filter.mpr ⟨List.mem_append_right _ (List.mem_of_getElem? (i := 607) (by decide +kernel)), by decide +kernel⟩
theorem mi_608 : Cond.selects RX10 yX10_feed yX10_feed ∈ gx_TB := List.mem_filter.mpr ⟨List.mem_append_right _ (List.mem_of_getElem? (i := 608) (by decide +kernel)), by decide +kernel⟩
set_option maxRecDepth 100000 in
theorem mi_609 : Cond.code yX10_feed cX10_feed 6 (some .int) ∈ gx_TB := List.mem_filter.mpr ⟨List.mem_append_right _ (List.mem_of_getElem? (i := 609) rfl), by decide +kernel⟩
theorem mi_614 : Cond.methodLink RL 22 yX10_end ∈ gx_TB := List.mem_filter.mpr ⟨List.mem_append_right _ (List.mem_of_getElem? (i := 614) (by decide +kernel)), by decide +kernel⟩
theorem mi_615 : Cond.instanceMethod yX10_end ∈ gx_TB := List.mem_filter.mpr ⟨List.mem_append_right _ (List.mem_of_getElem? (i := 615) (by decide +kernel)), by decide +kernel⟩
theorem mi_616 : Cond.selects RX10 yX10_end yX10_end ∈ gx_TB := List.mem_filter.mpr ⟨List.mem_append_right _ (List.mem_of_getElem? (i := 616) (by decide +kernel)), by decide +kernel⟩
set_option maxRecDepth 100000 in
theorem mi_617 : Cond.code yX10_end cX10_end 2 (some .int) ∈ gx_TB := List.mem_filter.mpr ⟨List.mem_append_right _ (List.mem_of_getElem? (i := 617) rfl), by decide +kernel⟩
theorem mi_621 : Cond.methodLink RL 27 yX10_message ∈ gx_TB := List.mem_filter.mpr ⟨List.mem_append_right _ (List.mem_of_getElem? (i := 621) (by decide +kernel)), by decide +kernel⟩
theorem mi_622 : Cond.instanceMethod yX10_message ∈ gx_TB := List.mem_filter.mpr ⟨List.mem_append_right _ (List.mem_of_getElem? (i := 622) (by decide +kernel)), by decide +kernel⟩
theorem mi_623 : Cond.selects RX10 yX10_message yX10_message ∈ gx_TB := List.mem_filter.mpr ⟨List.mem_append_right _ (List.mem_of_getElem? (i := 623) (by decide +kernel)), by decide +kernel⟩
set_option maxRecDepth 100000 in
theorem mi_624 : Cond.code yX10_message cX10_message 8 (some .int) ∈ gx_TB := List.mem_filter.mpr ⟨List.mem_append_right _ (List.mem_of_getElem? (i := 624) rfl), by decide +kernel⟩
theorem mi_649 : Cond.methodLink RL 32 yX10_plainBody ∈ gx_TB := List.mem_filter.mpr ⟨List.mem_append_right _ (List.mem_of_getElem? (i := 649) (by decide +kernel)), by decide +kernel⟩
theorem mi_650 : Cond.instanceMethod yX10_plainBody ∈ gx_TB := List.mem_filter.mpr ⟨List.mem_append_right _ (List.mem_of_getElem? (i := 650) (by decide +kernel)), by decide +kernel⟩
theorem mi_651 : Cond.selects RX10 yX10_plainBody yX10_plainBody ∈ gx_TB := List.mem_filter.mpr ⟨List.mem_append_right _ (List.mem_of_getElem? (i := 651) (by decide +kernel)), by decide +kernel⟩
set_option maxRecDepth 100000 in
theorem mi_652 : Cond.code yX10_plainBody cX10_plainBody 2 (some .int) ∈ gx_TB := List.mem_filter.mpr ⟨List.mem_append_right _ (List.mem_of_getElem? (i := 652) rfl), by decide +kernel⟩
theorem mi_665 : Cond.methodLink RL 37 yX10_plainField ∈ gx_TB := List.mem_filter.mpr ⟨List.mem_append_right _ (List.mem_of_getElem? (i := 665) (by decide +kernel)), by decide +kernel⟩
theorem mi_666 : Cond.instanceMethod yX10_plainField ∈ gx_TB := List.mem_filter.mpr ⟨List.mem_append_right _ (List.mem_of_getElem? (i := 666) (by decide +kernel)), by decide +kernel⟩
theorem mi_667 : Cond.selects RX10 yX10_plainField yX10_plainField ∈ gx_TB := List.mem_filter.mpr ⟨List.mem_append_right _ (List.mem_of_getElem? (i := 667) (by decide +kernel)), by decide +kernel⟩
set_option maxRecDepth 100000 in
theorem mi_668 : Cond.code yX10_plainField cX10_plainField 3 (some .int) ∈ gx_TB := List.mem_filter.mpr ⟨List.mem_append_right _ (List.mem_of_getElem? (i := 668) rfl), by decide +kernel⟩
theorem mi_680 : Cond.methodLink RL 41 yX10_named ∈ gx_TB := List.mem_filter.mpr ⟨List.mem_append_right _ (List.mem_of_getElem? (i := 680) (by decide +kernel)), by decide +kernel⟩
theorem mi_681 : Cond.instanceMethod yX10_named ∈ gx_TB := List.mem_filter.mpr ⟨List.mem_append_right _ (List.mem_of_getElem? (i := 681) (by decide +kernel)), by decide +kernel⟩
theorem mi_682 : Cond.selects RX10 yX10_named yX10_named ∈ gx_TB := List.mem_filter.mpr ⟨List.mem_append_right _ (List.mem_of_getElem? (i := 682) (by decide +kernel)), by decide +kernel⟩
set_option maxRecDepth 100000 in
theorem mi_683 : Cond.code yX10_named cX10_named 6 (some .int) ∈ gx_TB := List.mem_filter.mpr ⟨List.mem_append_right _ (List.mem_of_getElem? (i := 683) rfl), by decide +kernel⟩
theorem mi_684 : Cond.methodLink RL 45 yX10_tags ∈ gx_TB := List.mem_filter.mpr ⟨List.mem_append_right _ (List.mem_of_getElem? (i := 684) (by decide +kernel)), by decide +kernel⟩
theorem mi_685 : Cond.instanceMethod yX10_tags ∈ gx_TB := List.mem_filter.mpr ⟨List.mem_append_right _ (List.mem_of_getElem? (i := 685) (by decide +kernel)), by decide +kernel⟩
theorem mi_686 : Cond.selects RX10 yX10_tags yX10_tags ∈ gx_TB := List.mem_filter.mpr ⟨List.mem_append_right _ (List.mem_of_getElem? (i := 686) (by decide +kernel)), by decide +kernel⟩
set_option maxRecDepth 100000 in
theorem mi_687 : Cond.code yX10_tags cX10_tags 3 (some .int) ∈ gx_TB := List.mem_filter.mpr ⟨List.mem_append_right _ (List.mem_of_getElem? (i := 687) rfl), by decide +kernel⟩
theorem mi_698 : Cond.methodLink RL 49 yX10_tag ∈ gx_TB := List.mem_filter.mpr ⟨List.mem_append_right _ (List.mem_of_getElem? (i := 698) (by decide +kernel)), by decide +kernel⟩
theorem mi_699 : Cond.instanceMethod yX10_tag ∈ gx_TB := List.mem_filter.mpr ⟨List.mem_append_right _ (List.mem_of_getElem? (i := 699) (by decide +kernel)), by decide +kernel⟩
theorem mi_700 : Cond.selects RX10 yX10_tag yX10_tag ∈ gx_TB := List.mem_filter.mpr ⟨List.mem_append_right _ (List.mem_of_getElem? (i := 700) (by decide +kernel)), by decide +kernel⟩
set_option maxRecDepth 100000 in
theorem mi_701 : Cond.code yX10_tag cX10_tag 3 (some .int) ∈ gx_TB := List.mem_filter.mpr ⟨List.mem_append_right _ (List.mem_of_getElem? (i := 701) rfl), by decide +kernel⟩
theorem mi_706 : Cond.methodLink RL 53 yX10_decode ∈ gx_TB := List.mem_filter.mpr ⟨List.mem_append_right _ (List.mem_of_getElem? (i := 706) (by decide +kernel)), by decide +kernel⟩
theorem mi_707 : Cond.instanceMethod yX10_decode ∈ gx_TB := List.mem_filter.mpr ⟨List.mem_append_right _ (List.mem_of_getElem? (i := 707) (by decide +kernel)), by decide +kernel⟩
theorem mi_708 : Cond.selects RX10 yX10_decode yX10_decode ∈ gx_TB := List.mem_filter.mpr ⟨List.mem_append_right _ (List.mem_of_getElem? (i := 708) (by decide +kernel)), by decide +kernel⟩
set_option maxRecDepth 100000 in
theorem mi_709 : Cond.code yX10_decode cX10_decode 11 (some .int) ∈ gx_TB := List.mem_filter.mpr ⟨List.mem_append_right _ (List.mem_of_getElem? (i := 709) rfl), by decide +kernel⟩
theorem mi_714 : Cond.methodLink RL 57 yX10_digest_ ∈ gx_TB := List.mem_filter.mpr ⟨List.mem_append_right _ (List.mem_of_getElem? (i := 714) (by decide +kernel)), by decide +kernel⟩
theorem mi_715 : Cond.instanceMethod yX10_digest_ ∈ gx_TB := List.mem_filter.mpr ⟨List.mem_append_right _ (List.mem_of_getElem? (i := 715) (by decide +kernel)), by decide +kernel⟩
theorem mi_716 : Cond.selects RX10 yX10_digest_ yX10_digest_ ∈ gx_TB := List.mem_filter.mpr ⟨List.mem_append_right _ (List.mem_of_getElem? (i := 716) (by decide +kernel)), by decide +kernel⟩
set_option maxRecDepth 100000 in
theorem mi_717 : Cond.code yX10_digest_ cX10_digest_ 1 (some .int) ∈ gx_TB := List.mem_filter.mpr ⟨List.mem_append_right _ (List.mem_of_getElem? (i := 717) rfl), by decide +kernel⟩
theorem mi_751 : Cond.methodLink RL 61 yX10_power ∈ gx_TB := List.mem_filter.mpr ⟨List.mem_append_right _ (List.mem_of_getElem? (i := 751) (by decide +kernel)), by decide +kernel⟩
theorem mi_752 : Cond.instanceMethod yX10_power ∈ gx_TB := List.mem_filter.mpr ⟨List.mem_append_right _ (List.mem_of_getElem? (i := 752) (by decide +kernel)), by decide +kernel⟩
theorem mi_753 : Cond.selects RX10 yX10_power yX10_power ∈ gx_TB := List.mem_filter.mpr ⟨List.mem_append_right _ (List.mem_of_getElem? (i := 753) (by decide +kernel)), by decide +kernel⟩
set_option maxRecDepth 100000 in
theorem mi_754 : Cond.code yX10_power cX10_power 2 (some .int) ∈ gx_TB := List.mem_filter.mpr ⟨List.mem_append_right _ (List.mem_of_getElem? (i := 754) rfl), by decide +kernel⟩
theorem mi_774 : Cond.methodLink RL 65 yX10_octet ∈ gx_TB := List.mem_filter.mpr ⟨List.mem_append_right _ (List.mem_of_getElem? (i := 774) (by decide +kernel)), by decide +kernel⟩
theorem mi_775 : Cond.instanceMethod yX10_octet ∈ gx_TB := List.mem_filter.mpr ⟨List.mem_append_right _ (List.mem_of_getElem? (i := 775) (by decide +kernel)), by decide +kernel⟩
theorem mi_776 : Cond.selects RX10 yX10_octet yX10_octet ∈ gx_TB := List.mem_filter.mpr ⟨List.mem_append_right _ (List.mem_of_getElem? (i := 776) (by decide +kernel)), by decide +kernel⟩
set_option maxRecDepth 100000 in
theorem mi_777 : Cond.code yX10_octet cX10_octet 2 (some .int) ∈ gx_TB := List.mem_filter.mpr ⟨List.mem_append_right _ (List.mem_of_getElem? (i := 777) rfl), by decide +kernel⟩
/-! THE CLAIM OUT OF ONE WALK OF THE LAW'S BODY. Your part is whole_start (and what it stands on); all else here is the same for every law, but numbers. -/
def R_law : String := "PlainSealLaw"
def lw_P (b : Addr) (xs : List Int32) (args : Array Value) (s : State) : Prop := args = #[.ref b] ∧ s.IntsAt b xs ∧ xs.length ≤ 3072 ∧ (Jvm.Cond.and given_1 narrow_1).before args s = true
def lw_Q (_ : Array Value) (s : State) (o : Outcome) (t : State) : Prop := o = .returned (some (.int 1)) ∧ Framed s o t [] 600000 7302250
def lw_Z (below : List Frame) (a : Array Value) (s : State) : State → Prop := fun t => ∃ o, t.status = .running ∧ Ended t below o ∧ lw_Q a s o t
/-- the law's own end, with 1 on the stack, nothing written that was there before, its room as the claim has it -/
theorem lw_ret {p : Program} {l : Launch} {e : Env} {s : State} {m : MethodId} {below : List Frame} {meth : Method} {c : Code} {b : Nat} (hx : p.tables.exec = Jvm.exec) (hb : c.code = code) (hr : meth.sig.returnType = ret) (hlocks : meth.locks = false) {pc : Nat} {H : Heap} {ls : Array Slot} (hdg : decode code pc = .ok (.ireturn, 1)) : W p l e room_1 s m #[Value.ref b] below meth c H [] 600000 7302250 (lw_Z below #[Value.ref b] s) (F0 m pc ls [.int 1]) := by
  intro T hT X
  obtain ⟨fs, hret, hrun, hended, hW, hframe⟩ := X.leave (v := some (.int 1)) (hlocks := hlocks) (fun h => by rw [hr] at h; cases h)
  have hmeth' : T.vm.method? m = some meth := X.method'
  refine ⟨T.setFrames fs, ?_, .returned (some (.int 1)), hrun, hended, rfl, ⟨_, rfl⟩, hW, hframe⟩
  jvm_step X.here [X.here.top, hx, hb, hdg, hmeth', hr, ret, narrow_b1]
  (try refine ⟨rfl, ?_⟩); (try refine ⟨rfl, ?_⟩)
  first | (intro acts; rw [hret _ acts rfl rfl rfl]) | rw [hret _ _ rfl rfl rfl]
  exact Steps.refl _
/-- what holds at the law's entry: the machine, the code, the tables' words (any of lw_tbl by 'hts w (by decide +kernel)'), the script of L ints xs at the cell b, what the Statement gives of the start (any of its parts by flat_of_before) -/
def lw_At (p : Program) (s : State) (m : MethodId) (meth : Method) (c : Code) (b L : Nat) (xs : Nat → Int32) : Prop :=
  p.tables.exec = Jvm.exec ∧ c.code = code ∧ meth.sig.returnType = ret ∧ c.maxLocals = 4 ∧ s.vm.findClass R_law = some m.cls ∧ (∀ w ∈ lw_tbl, w.before #[Value.ref b] s = true) ∧ va_X b L xs s s.heap ∧ b < s.heap.size ∧ meth.locks = false ∧ (Jvm.Cond.and given_1 narrow_1).before #[Value.ref b] s = true
theorem dL_law_0 : decode code 0 = .ok (.new 7, 3) := by decide +kernel
theorem dL_law_3 : decode code 3 = .ok (.dup, 1) := by decide +kernel
theorem dL_law_4 : decode code 4 = .ok (.invokespecial 9, 3) := by decide +kernel
theorem dL_law_7 : decode code 7 = .ok (.astore_n 1, 1) := by decide +kernel
theorem dL_law_8 : decode code 8 = .ok (.new 10, 3) := by decide +kernel
theorem dL_law_11 : decode code 11 = .ok (.dup, 1) := by decide +kernel
theorem dL_law_12 : decode code 12 = .ok (.invokespecial 12, 3) := by decide +kernel
theorem dL_law_15 : decode code 15 = .ok (.astore_n 2, 1) := by decide +kernel
theorem dL_law_16 : decode code 16 = .ok (.iconst 0, 1) := by decide +kernel
theorem dL_law_17 : decode code 17 = .ok (.istore_n 3, 1) := by decide +kernel
theorem dL_law_18 : decode code 18 = .ok (.iload_n 3, 1) := by decide +kernel
theorem dL_law_19 : decode code 19 = .ok (.aload_n 0, 1) := by decide +kernel
theorem dL_law_20 : decode code 20 = .ok (.arraylength, 1) := by decide +kernel
theorem dL_law_21 : decode code 21 = .ok (.bipush 6, 2) := by decide +kernel
theorem dL_law_23 : decode code 23 = .ok (.isub, 1) := by decide +kernel
theorem dL_law_24 : decode code 24 = .ok (.if_icmp .gt 376, 3) := by decide +kernel
theorem dL_law_27 : decode code 27 = .ok (.aload_n 0, 1) := by decide +kernel
theorem dL_law_28 : decode code 28 = .ok (.iload_n 3, 1) := by decide +kernel
theorem dL_law_29 : decode code 29 = .ok (.iaload, 1) := by decide +kernel
theorem dL_law_30 : decode code 30 = .ok (.bipush 15, 2) := by decide +kernel
theorem dL_law_32 : decode code 32 = .ok (.iand, 1) := by decide +kernel
theorem dL_law_33 : decode code 33 = .ok (.tableswitch 361 0 11 #[63, 126, 149, 162, 201, 250, 263, 276, 289, 312, 325, 338], 63) := by decide +kernel
theorem dL_law_96 : decode code 96 = .ok (.aload_n 1, 1) := by decide +kernel
theorem dL_law_97 : decode code 97 = .ok (.aload_n 0, 1) := by decide +kernel
theorem dL_law_98 : decode code 98 = .ok (.iload_n 3, 1) := by decide +kernel
theorem dL_law_99 : decode code 99 = .ok (.iconst 1, 1) := by decide +kernel
theorem dL_law_100 : decode code 100 = .ok (.iadd, 1) := by decide +kernel
theorem dL_law_101 : decode code 101 = .ok (.iaload, 1) := by decide +kernel
theorem dL_law_102 : decode code 102 = .ok (.aload_n 0, 1) := by decide +kernel
theorem dL_law_103 : decode code 103 = .ok (.iload_n 3, 1) := by decide +kernel
theorem dL_law_104 : decode code 104 = .ok (.iconst 2, 1) := by decide +kernel
theorem dL_law_105 : decode code 105 = .ok (.iadd, 1) := by decide +kernel
theorem dL_law_106 : decode code 106 = .ok (.iaload, 1) := by decide +kernel
theorem dL_law_107 : decode code 107 = .ok (.aload_n 0, 1) := by decide +kernel
theorem dL_law_108 : decode code 108 = .ok (.iload_n 3, 1) := by decide +kernel
theorem dL_law_109 : decode code 109 = .ok (.iconst 3, 1) := by decide +kernel
theorem dL_law_110 : decode code 110 = .ok (.iadd, 1) := by decide +kernel
theorem dL_law_111 : decode code 111 = .ok (.iaload, 1) := by decide +kernel
theorem dL_law_112 : decode code 112 = .ok (.aload_n 0, 1) := by decide +kernel
theorem dL_law_113 : decode code 113 = .ok (.iload_n 3, 1) := by decide +kernel
theorem dL_law_114 : decode code 114 = .ok (.iconst 4, 1) := by decide +kernel
theorem dL_law_115 : decode code 115 = .ok (.iadd, 1) := by decide +kernel
theorem dL_law_116 : decode code 116 = .ok (.iaload, 1) := by decide +kernel
theorem dL_law_117 : decode code 117 = .ok (.aload_n 0, 1) := by decide +kernel
theorem dL_law_118 : decode code 118 = .ok (.iload_n 3, 1) := by decide +kernel
theorem dL_law_119 : decode code 119 = .ok (.iconst 5, 1) := by decide +kernel
theorem dL_law_120 : decode code 120 = .ok (.iadd, 1) := by decide +kernel
theorem dL_law_121 : decode code 121 = .ok (.iaload, 1) := by decide +kernel
theorem dL_law_122 : decode code 122 = .ok (.invokevirtual 13, 3) := by decide +kernel
theorem dL_law_125 : decode code 125 = .ok (.aload_n 2, 1) := by decide +kernel
theorem dL_law_126 : decode code 126 = .ok (.aload_n 0, 1) := by decide +kernel
theorem dL_law_127 : decode code 127 = .ok (.iload_n 3, 1) := by decide +kernel
theorem dL_law_128 : decode code 128 = .ok (.iconst 1, 1) := by decide +kernel
theorem dL_law_129 : decode code 129 = .ok (.iadd, 1) := by decide +kernel
theorem dL_law_130 : decode code 130 = .ok (.iaload, 1) := by decide +kernel
theorem dL_law_131 : decode code 131 = .ok (.aload_n 0, 1) := by decide +kernel
theorem dL_law_132 : decode code 132 = .ok (.iload_n 3, 1) := by decide +kernel
theorem dL_law_133 : decode code 133 = .ok (.iconst 2, 1) := by decide +kernel
theorem dL_law_134 : decode code 134 = .ok (.iadd, 1) := by decide +kernel
theorem dL_law_135 : decode code 135 = .ok (.iaload, 1) := by decide +kernel
theorem dL_law_136 : decode code 136 = .ok (.aload_n 0, 1) := by decide +kernel
theorem dL_law_137 : decode code 137 = .ok (.iload_n 3, 1) := by decide +kernel
theorem dL_law_138 : decode code 138 = .ok (.iconst 3, 1) := by decide +kernel
theorem dL_law_139 : decode code 139 = .ok (.iadd, 1) := by decide +kernel
theorem dL_law_140 : decode code 140 = .ok (.iaload, 1) := by decide +kernel
theorem dL_law_141 : decode code 141 = .ok (.aload_n 0, 1) := by decide +kernel
theorem dL_law_142 : decode code 142 = .ok (.iload_n 3, 1) := by decide +kernel
theorem dL_law_143 : decode code 143 = .ok (.iconst 4, 1) := by decide +kernel
theorem dL_law_144 : decode code 144 = .ok (.iadd, 1) := by decide +kernel
theorem dL_law_145 : decode code 145 = .ok (.iaload, 1) := by decide +kernel
theorem dL_law_146 : decode code 146 = .ok (.aload_n 0, 1) := by decide +kernel
theorem dL_law_147 : decode code 147 = .ok (.iload_n 3, 1) := by decide +kernel
theorem dL_law_148 : decode code 148 = .ok (.iconst 5, 1) := by decide +kernel
theorem dL_law_149 : decode code 149 = .ok (.iadd, 1) := by decide +kernel
theorem dL_law_150 : decode code 150 = .ok (.iaload, 1) := by decide +kernel
theorem dL_law_151 : decode code 151 = .ok (.invokevirtual 17, 3) := by decide +kernel
theorem dL_law_154 : decode code 154 = .ok (.if_icmp .eq 240, 3) := by decide +kernel
theorem dL_law_157 : decode code 157 = .ok (.iconst 0, 1) := by decide +kernel
theorem dL_law_158 : decode code 158 = .ok (.ireturn, 1) := by decide +kernel
theorem dL_law_159 : decode code 159 = .ok (.aload_n 1, 1) := by decide +kernel
theorem dL_law_160 : decode code 160 = .ok (.aload_n 0, 1) := by decide +kernel
theorem dL_law_161 : decode code 161 = .ok (.iload_n 3, 1) := by decide +kernel
theorem dL_law_162 : decode code 162 = .ok (.iconst 1, 1) := by decide +kernel
theorem dL_law_163 : decode code 163 = .ok (.iadd, 1) := by decide +kernel
theorem dL_law_164 : decode code 164 = .ok (.iaload, 1) := by decide +kernel
theorem dL_law_165 : decode code 165 = .ok (.invokevirtual 18, 3) := by decide +kernel
theorem dL_law_168 : decode code 168 = .ok (.aload_n 2, 1) := by decide +kernel
theorem dL_law_169 : decode code 169 = .ok (.aload_n 0, 1) := by decide +kernel
theorem dL_law_170 : decode code 170 = .ok (.iload_n 3, 1) := by decide +kernel
theorem dL_law_171 : decode code 171 = .ok (.iconst 1, 1) := by decide +kernel
theorem dL_law_172 : decode code 172 = .ok (.iadd, 1) := by decide +kernel
theorem dL_law_173 : decode code 173 = .ok (.iaload, 1) := by decide +kernel
theorem dL_law_174 : decode code 174 = .ok (.invokevirtual 22, 3) := by decide +kernel
theorem dL_law_177 : decode code 177 = .ok (.if_icmp .eq 217, 3) := by decide +kernel
theorem dL_law_180 : decode code 180 = .ok (.iconst 0, 1) := by decide +kernel
theorem dL_law_181 : decode code 181 = .ok (.ireturn, 1) := by decide +kernel
theorem dL_law_182 : decode code 182 = .ok (.aload_n 1, 1) := by decide +kernel
theorem dL_law_183 : decode code 183 = .ok (.invokevirtual 23, 3) := by decide +kernel
theorem dL_law_186 : decode code 186 = .ok (.aload_n 2, 1) := by decide +kernel
theorem dL_law_187 : decode code 187 = .ok (.invokevirtual 27, 3) := by decide +kernel
theorem dL_law_190 : decode code 190 = .ok (.if_icmp .eq 204, 3) := by decide +kernel
theorem dL_law_193 : decode code 193 = .ok (.iconst 0, 1) := by decide +kernel
theorem dL_law_194 : decode code 194 = .ok (.ireturn, 1) := by decide +kernel
theorem dL_law_195 : decode code 195 = .ok (.aload_n 1, 1) := by decide +kernel
theorem dL_law_196 : decode code 196 = .ok (.aload_n 0, 1) := by decide +kernel
theorem dL_law_197 : decode code 197 = .ok (.iload_n 3, 1) := by decide +kernel
theorem dL_law_198 : decode code 198 = .ok (.iconst 1, 1) := by decide +kernel
theorem dL_law_199 : decode code 199 = .ok (.iadd, 1) := by decide +kernel
theorem dL_law_200 : decode code 200 = .ok (.iaload, 1) := by decide +kernel
theorem dL_law_201 : decode code 201 = .ok (.ifCond .eq 7, 3) := by decide +kernel
theorem dL_law_204 : decode code 204 = .ok (.iconst 1, 1) := by decide +kernel
theorem dL_law_205 : decode code 205 = .ok (.goto 4, 3) := by decide +kernel
theorem dL_law_208 : decode code 208 = .ok (.iconst 0, 1) := by decide +kernel
theorem dL_law_209 : decode code 209 = .ok (.invokevirtual 28, 3) := by decide +kernel
theorem dL_law_212 : decode code 212 = .ok (.aload_n 2, 1) := by decide +kernel
theorem dL_law_213 : decode code 213 = .ok (.aload_n 0, 1) := by decide +kernel
theorem dL_law_214 : decode code 214 = .ok (.iload_n 3, 1) := by decide +kernel
theorem dL_law_215 : decode code 215 = .ok (.iconst 1, 1) := by decide +kernel
theorem dL_law_216 : decode code 216 = .ok (.iadd, 1) := by decide +kernel
theorem dL_law_217 : decode code 217 = .ok (.iaload, 1) := by decide +kernel
theorem dL_law_218 : decode code 218 = .ok (.ifCond .eq 7, 3) := by decide +kernel
theorem dL_law_221 : decode code 221 = .ok (.iconst 1, 1) := by decide +kernel
theorem dL_law_222 : decode code 222 = .ok (.goto 4, 3) := by decide +kernel
theorem dL_law_225 : decode code 225 = .ok (.iconst 0, 1) := by decide +kernel
theorem dL_law_226 : decode code 226 = .ok (.invokevirtual 32, 3) := by decide +kernel
theorem dL_law_229 : decode code 229 = .ok (.if_icmp .eq 165, 3) := by decide +kernel
theorem dL_law_232 : decode code 232 = .ok (.iconst 0, 1) := by decide +kernel
theorem dL_law_233 : decode code 233 = .ok (.ireturn, 1) := by decide +kernel
theorem dL_law_234 : decode code 234 = .ok (.aload_n 1, 1) := by decide +kernel
theorem dL_law_235 : decode code 235 = .ok (.aload_n 0, 1) := by decide +kernel
theorem dL_law_236 : decode code 236 = .ok (.iload_n 3, 1) := by decide +kernel
theorem dL_law_237 : decode code 237 = .ok (.iconst 1, 1) := by decide +kernel
theorem dL_law_238 : decode code 238 = .ok (.iadd, 1) := by decide +kernel
theorem dL_law_239 : decode code 239 = .ok (.iaload, 1) := by decide +kernel
theorem dL_law_240 : decode code 240 = .ok (.aload_n 0, 1) := by decide +kernel
theorem dL_law_241 : decode code 241 = .ok (.iload_n 3, 1) := by decide +kernel
theorem dL_law_242 : decode code 242 = .ok (.iconst 2, 1) := by decide +kernel
theorem dL_law_243 : decode code 243 = .ok (.iadd, 1) := by decide +kernel
theorem dL_law_244 : decode code 244 = .ok (.iaload, 1) := by decide +kernel
theorem dL_law_245 : decode code 245 = .ok (.ifCond .eq 7, 3) := by decide +kernel
theorem dL_law_248 : decode code 248 = .ok (.iconst 1, 1) := by decide +kernel
theorem dL_law_249 : decode code 249 = .ok (.goto 4, 3) := by decide +kernel
theorem dL_law_252 : decode code 252 = .ok (.iconst 0, 1) := by decide +kernel
theorem dL_law_253 : decode code 253 = .ok (.invokevirtual 33, 3) := by decide +kernel
theorem dL_law_256 : decode code 256 = .ok (.aload_n 2, 1) := by decide +kernel
theorem dL_law_257 : decode code 257 = .ok (.aload_n 0, 1) := by decide +kernel
theorem dL_law_258 : decode code 258 = .ok (.iload_n 3, 1) := by decide +kernel
theorem dL_law_259 : decode code 259 = .ok (.iconst 1, 1) := by decide +kernel
theorem dL_law_260 : decode code 260 = .ok (.iadd, 1) := by decide +kernel
theorem dL_law_261 : decode code 261 = .ok (.iaload, 1) := by decide +kernel
theorem dL_law_262 : decode code 262 = .ok (.aload_n 0, 1) := by decide +kernel
theorem dL_law_263 : decode code 263 = .ok (.iload_n 3, 1) := by decide +kernel
theorem dL_law_264 : decode code 264 = .ok (.iconst 2, 1) := by decide +kernel
theorem dL_law_265 : decode code 265 = .ok (.iadd, 1) := by decide +kernel
theorem dL_law_266 : decode code 266 = .ok (.iaload, 1) := by decide +kernel
theorem dL_law_267 : decode code 267 = .ok (.ifCond .eq 7, 3) := by decide +kernel
theorem dL_law_270 : decode code 270 = .ok (.iconst 1, 1) := by decide +kernel
theorem dL_law_271 : decode code 271 = .ok (.goto 4, 3) := by decide +kernel
theorem dL_law_274 : decode code 274 = .ok (.iconst 0, 1) := by decide +kernel
theorem dL_law_275 : decode code 275 = .ok (.invokevirtual 37, 3) := by decide +kernel
theorem dL_law_278 : decode code 278 = .ok (.if_icmp .eq 116, 3) := by decide +kernel
theorem dL_law_281 : decode code 281 = .ok (.iconst 0, 1) := by decide +kernel
theorem dL_law_282 : decode code 282 = .ok (.ireturn, 1) := by decide +kernel
theorem dL_law_283 : decode code 283 = .ok (.aload_n 1, 1) := by decide +kernel
theorem dL_law_284 : decode code 284 = .ok (.invokevirtual 38, 3) := by decide +kernel
theorem dL_law_287 : decode code 287 = .ok (.aload_n 2, 1) := by decide +kernel
theorem dL_law_288 : decode code 288 = .ok (.invokevirtual 41, 3) := by decide +kernel
theorem dL_law_291 : decode code 291 = .ok (.if_icmp .eq 103, 3) := by decide +kernel
theorem dL_law_294 : decode code 294 = .ok (.iconst 0, 1) := by decide +kernel
theorem dL_law_295 : decode code 295 = .ok (.ireturn, 1) := by decide +kernel
theorem dL_law_296 : decode code 296 = .ok (.aload_n 1, 1) := by decide +kernel
theorem dL_law_297 : decode code 297 = .ok (.invokevirtual 42, 3) := by decide +kernel
theorem dL_law_300 : decode code 300 = .ok (.aload_n 2, 1) := by decide +kernel
theorem dL_law_301 : decode code 301 = .ok (.invokevirtual 45, 3) := by decide +kernel
theorem dL_law_304 : decode code 304 = .ok (.if_icmp .eq 90, 3) := by decide +kernel
theorem dL_law_307 : decode code 307 = .ok (.iconst 0, 1) := by decide +kernel
theorem dL_law_308 : decode code 308 = .ok (.ireturn, 1) := by decide +kernel
theorem dL_law_309 : decode code 309 = .ok (.aload_n 1, 1) := by decide +kernel
theorem dL_law_310 : decode code 310 = .ok (.invokevirtual 46, 3) := by decide +kernel
theorem dL_law_313 : decode code 313 = .ok (.aload_n 2, 1) := by decide +kernel
theorem dL_law_314 : decode code 314 = .ok (.invokevirtual 49, 3) := by decide +kernel
theorem dL_law_317 : decode code 317 = .ok (.if_icmp .eq 77, 3) := by decide +kernel
theorem dL_law_320 : decode code 320 = .ok (.iconst 0, 1) := by decide +kernel
theorem dL_law_321 : decode code 321 = .ok (.ireturn, 1) := by decide +kernel
theorem dL_law_322 : decode code 322 = .ok (.aload_n 1, 1) := by decide +kernel
theorem dL_law_323 : decode code 323 = .ok (.aload_n 0, 1) := by decide +kernel
theorem dL_law_324 : decode code 324 = .ok (.iload_n 3, 1) := by decide +kernel
theorem dL_law_325 : decode code 325 = .ok (.iconst 1, 1) := by decide +kernel
theorem dL_law_326 : decode code 326 = .ok (.iadd, 1) := by decide +kernel
theorem dL_law_327 : decode code 327 = .ok (.iaload, 1) := by decide +kernel
theorem dL_law_328 : decode code 328 = .ok (.invokevirtual 50, 3) := by decide +kernel
theorem dL_law_331 : decode code 331 = .ok (.aload_n 2, 1) := by decide +kernel
theorem dL_law_332 : decode code 332 = .ok (.aload_n 0, 1) := by decide +kernel
theorem dL_law_333 : decode code 333 = .ok (.iload_n 3, 1) := by decide +kernel
theorem dL_law_334 : decode code 334 = .ok (.iconst 1, 1) := by decide +kernel
theorem dL_law_335 : decode code 335 = .ok (.iadd, 1) := by decide +kernel
theorem dL_law_336 : decode code 336 = .ok (.iaload, 1) := by decide +kernel
theorem dL_law_337 : decode code 337 = .ok (.invokevirtual 53, 3) := by decide +kernel
theorem dL_law_340 : decode code 340 = .ok (.if_icmp .eq 54, 3) := by decide +kernel
theorem dL_law_343 : decode code 343 = .ok (.iconst 0, 1) := by decide +kernel
theorem dL_law_344 : decode code 344 = .ok (.ireturn, 1) := by decide +kernel
theorem dL_law_345 : decode code 345 = .ok (.aload_n 1, 1) := by decide +kernel
theorem dL_law_346 : decode code 346 = .ok (.invokevirtual 54, 3) := by decide +kernel
theorem dL_law_349 : decode code 349 = .ok (.aload_n 2, 1) := by decide +kernel
theorem dL_law_350 : decode code 350 = .ok (.invokevirtual 57, 3) := by decide +kernel
theorem dL_law_353 : decode code 353 = .ok (.if_icmp .eq 41, 3) := by decide +kernel
theorem dL_law_356 : decode code 356 = .ok (.iconst 0, 1) := by decide +kernel
theorem dL_law_357 : decode code 357 = .ok (.ireturn, 1) := by decide +kernel
theorem dL_law_358 : decode code 358 = .ok (.aload_n 1, 1) := by decide +kernel
theorem dL_law_359 : decode code 359 = .ok (.invokevirtual 58, 3) := by decide +kernel
theorem dL_law_362 : decode code 362 = .ok (.aload_n 2, 1) := by decide +kernel
theorem dL_law_363 : decode code 363 = .ok (.invokevirtual 61, 3) := by decide +kernel
theorem dL_law_366 : decode code 366 = .ok (.if_icmp .eq 28, 3) := by decide +kernel
theorem dL_law_369 : decode code 369 = .ok (.iconst 0, 1) := by decide +kernel
theorem dL_law_370 : decode code 370 = .ok (.ireturn, 1) := by decide +kernel
theorem dL_law_371 : decode code 371 = .ok (.aload_n 1, 1) := by decide +kernel
theorem dL_law_372 : decode code 372 = .ok (.aload_n 0, 1) := by decide +kernel
theorem dL_law_373 : decode code 373 = .ok (.iload_n 3, 1) := by decide +kernel
theorem dL_law_374 : decode code 374 = .ok (.iconst 1, 1) := by decide +kernel
theorem dL_law_375 : decode code 375 = .ok (.iadd, 1) := by decide +kernel
theorem dL_law_376 : decode code 376 = .ok (.iaload, 1) := by decide +kernel
theorem dL_law_377 : decode code 377 = .ok (.invokevirtual 62, 3) := by decide +kernel
theorem dL_law_380 : decode code 380 = .ok (.aload_n 2, 1) := by decide +kernel
theorem dL_law_381 : decode code 381 = .ok (.aload_n 0, 1) := by decide +kernel
theorem dL_law_382 : decode code 382 = .ok (.iload_n 3, 1) := by decide +kernel
theorem dL_law_383 : decode code 383 = .ok (.iconst 1, 1) := by decide +kernel
theorem dL_law_384 : decode code 384 = .ok (.iadd, 1) := by decide +kernel
theorem dL_law_385 : decode code 385 = .ok (.iaload, 1) := by decide +kernel
theorem dL_law_386 : decode code 386 = .ok (.invokevirtual 65, 3) := by decide +kernel
theorem dL_law_389 : decode code 389 = .ok (.if_icmp .eq 5, 3) := by decide +kernel
theorem dL_law_392 : decode code 392 = .ok (.iconst 0, 1) := by decide +kernel
theorem dL_law_393 : decode code 393 = .ok (.ireturn, 1) := by decide +kernel
theorem dL_law_394 : decode code 394 = .ok (.iinc 3 6, 3) := by decide +kernel
theorem dL_law_397 : decode code 397 = .ok (.goto (-379), 3) := by decide +kernel
theorem dL_law_400 : decode code 400 = .ok (.iconst 1, 1) := by decide +kernel
theorem dL_law_401 : decode code 401 = .ok (.ireturn, 1) := by decide +kernel
/-- the law's frame: its place, the world behind the constructors, the script -/
def lx_X (E : gx_E) (b L : Nat) (xs : Nat → Int32) : Prop := (ex_p E).tables.exec = Jvm.exec ∧ (ex_c E).code = code ∧ (ex_c E).maxLocals = 4 ∧ (ex_s E).vm.findClass RL = some (ex_m E).cls ∧ (∀ w ∈ gx_TB, w.before #[Value.ref b] (ex_s E) = true) ∧ gx_K (ex_Z E) (ex_s E) ∧ (ex_meth E).sig.returnType = ret ∧ (ex_meth E).locks = false ∧ va_X b L xs (ex_s E) (ex_s E).heap ∧ b < (ex_s E).heap.size ∧ (∀ q, gx_A (ex_Z E) q → (ex_s E).heap.size ≤ q) ∧ L ≤ 3072
def lx_Wc (E : gx_E) (b pc : Nat) (lv : List (Nat × Value)) (st : List Value) (u : gx_S) : Prop :=
  ∀ (H : Heap) (locs : List Loc) (ls : Array Slot), lv_has ls 4 lv → gx_W (ex_Z E) u H → va_S (gx_A (ex_Z E)) (ex_s E).heap H locs →
    W (ex_p E) (ex_l E) (ex_e E) room_1 (ex_s E) (ex_m E) #[Value.ref b] (ex_below E) (ex_meth E) (ex_c E) H locs 60 26169 (lw_Z (ex_below E) #[Value.ref b] (ex_s E)) (F0 (ex_m E) pc ls st)
section LX
variable {E : gx_E} {b L : Nat} {xs : Nat → Int32} {pc : Nat} {lv : List (Nat × Value)} {st : List Value} {u : gx_S}
theorem lx_al (X : lx_X E b L xs) {k : Fin 4} {j i x : Nat} (hdg : decode code pc = .ok (.aload_n k, 1)) (hi : (k : Nat) = i) (hj : lv[j]? = some (i, .ref x)) (kk : lx_Wc E b (pc + 1) lv (.ref x :: st) u) : lx_Wc E b pc lv st u := fun H locs ls hl hw hs => lv_aload_n X.1 X.2.1 hdg hi (lv_at hl j hj) (kk H locs ls hl hw hs)
theorem lx_eq (X : lx_X E b L xs) {x y : Int32} {off : Int} {tgt : Nat} (hdg : decode code pc = .ok (.if_icmp .eq off, 3)) (ht : (pc : Int) + off = (tgt : Int)) (kt : x = y → lx_Wc E b tgt lv st u) (kf : ¬ x = y → lx_Wc E b (pc + 3) lv st u) : lx_Wc E b pc lv (.int y :: .int x :: st) u := fun H locs ls hl hw hs => lv_icmp_eq X.1 X.2.1 hdg ht (fun q => kt q H locs ls hl hw hs) (fun q => kf q H locs ls hl hw hs)
def lvL (E : gx_E) (b i : Nat) : List (Nat × Value) := [(0, .ref b), (1, .ref (ex_ad E 0)), (2, .ref (ex_ad E 21)), (3, .int (nI i))]
theorem lx_ld (X : lx_X E b L xs) {i n : Nat} {z : Int} (hi : i + n < L) (d1 : decode code pc = .ok (.aload_n 0, 1)) (d2 : decode code (pc + 1) = .ok (.iload_n 3, 1)) (d3 : decode code (pc + 1 + 1) = .ok (.iconst z, 1)) (hz : Int32.ofInt z = nI n) (d4 : decode code (pc + 1 + 1 + 1) = .ok (.iadd, 1)) (d5 : decode code (pc + 1 + 1 + 1 + 1) = .ok (.iaload, 1))
    (kk : lx_Wc E b (pc + 1 + 1 + 1 + 1 + 1) (lvL E b i) (.int (xs (i + n)) :: st) u) : lx_Wc E b pc (lvL E b i) st u := fun H locs ls hl hw hs => by
  obtain ⟨hx, hb, hml, hown, htb, hK, hr, hlk, hX, hbl, hA, hL⟩ := X
  refine lv_aload_n hx hb d1 rfl (lv_at hl 0 rfl) ?_
  refine lv_iload_n hx hb d2 rfl (lv_at hl 3 rfl) ?_
  refine lv_iconst hx hb d3 hz ?_
  refine lv_iadd hx hb d4 ?_
  rw [nI_add]
  refine va_sld hx hb hX hbl (fun q => absurd (hA b q) (by omega)) hs (vp_in_nI hi (by omega)) d5 ?_
  rw [nI_clamp (by omega)]
  exact kk H locs ls hl hw hs
theorem lx_bool (X : lx_X E b L xs) {x : Int32} (d1 : decode code pc = .ok (.ifCond .eq 7, 3)) (d2 : decode code (pc + 3) = .ok (.iconst 1, 1)) (d3 : decode code (pc + 3 + 1) = .ok (.goto 4, 3)) (d4 : decode code (pc + 7) = .ok (.iconst 0, 1)) (kk : lx_Wc E b (pc + 7 + 1) lv (.int (b2 (decide (x ≠ 0))) :: st) u) : lx_Wc E b pc lv (.int x :: st) u := fun H locs ls hl hw hs => by
  refine lv_if_eq (tgt := pc + 7) X.1 X.2.1 d1 (by omega) (fun q => ?_) (fun q => ?_)
  · refine lv_iconst (v := 0) X.1 X.2.1 d4 (by decide) ?_
    have := kk H locs ls hl hw hs
    rwa [show decide (x ≠ 0) = false by simp [q]] at this
  · refine lv_iconst (v := 1) X.1 X.2.1 d2 (by decide) ?_
    refine lv_goto (tgt := pc + 7 + 1) X.1 X.2.1 d3 (by omega) ?_
    have := kk H locs ls hl hw hs
    rwa [show decide (x ≠ 0) = true by simp [q]] at this
variable {y : MethodName} {bytes : ByteArray} {maxL d' o ci N idx n : Nat} {ry : Option FieldType} {TT : u_T} {As rest st0 : List Value}
theorem lx_call (X : lx_X E b L xs) {post : Int32 → gx_S → Prop} (hM : Met (ex_l E) y (Cond.code y bytes maxL ry :: gx_TB) (gx_rm d') (gx_Pre (ex_Z E) u (.ref (ex_ad E o) :: As)) (va_Qi post (gx_B (ex_Z E)) (gx_A (ex_Z E))) 0 0 (gx_A (ex_Z E))) (hd : d' + 1 ≤ 9) (hR2 : 8 + (maxL + 11) + 40 * d' ≤ 328) (hk : gx_isO o ci) (hc : classes[ci]? = some (y.cls, TT, N)) (m1 : Cond.methodLink RL idx y ∈ gx_TB) (m2 : Cond.instanceMethod y ∈ gx_TB) (m3 : Cond.selects y.cls y y ∈ gx_TB) (m4 : Cond.initialized y.cls ∈ gx_TB) (m5 : Cond.code y bytes maxL ry ∈ gx_TB)
    (hy : y.cls ≠ "java/lang/invoke/MethodHandle" ∧ y.cls ≠ "java/lang/invoke/VarHandle" ∧ (parseMethodDescriptor y.desc).map (fun d => d.parameters.length) = some n) (hn : As.length = n) (hst : st0 = As.reverse ++ .ref (ex_ad E o) :: rest) (hrest : (rest.map fun v => v.category).sum ≤ 8) (hdg : decode code pc = .ok (.invokevirtual idx, 3))
    (kk : ∀ (r : Int32) (u' : gx_S), post r u' → lx_Wc E b (pc + 3) lv (.int r :: rest) u') : lx_Wc E b pc lv st0 u := fun H locs ls hl hw hs => by
  obtain ⟨hx, hb, hml, hown, htb, hK, hr, hlk, hX, hbl, hA, hL⟩ := X
  have hrec : ∃ cell : Cell, H[ex_ad E o]? = some cell ∧ cell.vm.isStatics = false ∧ (ex_s E).vm.findClass y.cls = some cell.cls := by
    have h1 := hw o (Nat.lt_of_lt_of_le hk.1 gx_NwN)
    unfold gx_at at h1
    simp only [hk.2] at h1
    obtain ⟨cell, q1, q2, q3, q4⟩ := h1
    exact ⟨cell, q1, by rw [q3]; rfl, by rw [q2]; exact (hK.1 ci _ hc).2.1⟩
  exact va_calli (va_runV (Ts := gx_TB) (C := y.cls) ⟨hx, hb, hml, hown, htb⟩ hM ⟨callB_of n htb (gx_goodT m5) rfl rfl rfl (htb _ m4) (htb _ m1) hy ⟨hd, hR2⟩, htb _ m2, htb _ m3⟩ ⟨gx_blind, hrec, fun U hU hW => ⟨rfl, hK.moved hW hU hs, by rw [hU]; exact hw⟩⟩ rfl hn hl.1 hst (lv_room hrest) hdg ⟨Nat.le_of_ble_eq_true rfl, Nat.le_of_ble_eq_true rfl⟩) hs (fun _ _ h => h) (fun _ h => h) (fun r u' t H1 locs1 ht _ hp hB _ _ hS => kk r u' hp H1 locs1 ls hl (by rw [← ht]; exact hB) hS)
end LX
set_option maxRecDepth 100000 in
theorem cs_feed {E : gx_E} {b L : Nat} {xs : Nat → Int32} {u : gx_S} {hc kc : Nat → Int32} (X : lx_X E b L xs) {i : Nat} (hi : i + 6 ≤ L) (hI : Inv hc kc u) (next : ∀ u', Inv hc kc u' → lx_Wc E b 394 (lvL E b i) [] u') : lx_Wc E b 96 (lvL E b i) [] u := by
  refine lx_al X (j := 1) dL_law_96 rfl rfl ?_
  refine lx_ld X (n := 1) (by omega) dL_law_97 dL_law_98 dL_law_99 (by decide) dL_law_100 dL_law_101 ?_
  refine lx_ld X (n := 2) (by omega) dL_law_102 dL_law_103 dL_law_104 (by decide) dL_law_105 dL_law_106 ?_
  refine lx_ld X (n := 3) (by omega) dL_law_107 dL_law_108 dL_law_109 (by decide) dL_law_110 dL_law_111 ?_
  refine lx_ld X (n := 4) (by omega) dL_law_112 dL_law_113 dL_law_114 (by decide) dL_law_115 dL_law_116 ?_
  refine lx_ld X (n := 5) (by omega) dL_law_117 dL_law_118 dL_law_119 (by decide) dL_law_120 dL_law_121 ?_
  refine lx_call X (o := 0) (ci := 5) (As := [.int (xs (i + 1)), .int (xs (i + 2)), .int (xs (i + 3)), .int (xs (i + 4)), .int (xs (i + 5))]) (rest := []) (TT := TX6) (N := 6) (c_X6_feed (pr_feed hI _ _ _ _ _)) (by decide) (by decide) (isO_x 0 5 (by decide)) rfl mi_123 mi_124 mi_125 mw_1 mi_126 hyX6_feed rfl rfl (Nat.le_of_ble_eq_true rfl) dL_law_122 (fun r u1 h1 => ?_)
  refine lx_al X (j := 2) dL_law_125 rfl rfl ?_
  refine lx_ld X (n := 1) (by omega) dL_law_126 dL_law_127 dL_law_128 (by decide) dL_law_129 dL_law_130 ?_
  refine lx_ld X (n := 2) (by omega) dL_law_131 dL_law_132 dL_law_133 (by decide) dL_law_134 dL_law_135 ?_
  refine lx_ld X (n := 3) (by omega) dL_law_136 dL_law_137 dL_law_138 (by decide) dL_law_139 dL_law_140 ?_
  refine lx_ld X (n := 4) (by omega) dL_law_141 dL_law_142 dL_law_143 (by decide) dL_law_144 dL_law_145 ?_
  refine lx_ld X (n := 5) (by omega) dL_law_146 dL_law_147 dL_law_148 (by decide) dL_law_149 dL_law_150 ?_
  refine lx_call X (o := 21) (ci := 9) (As := [.int (xs (i + 1)), .int (xs (i + 2)), .int (xs (i + 3)), .int (xs (i + 4)), .int (xs (i + 5))]) (rest := [.int r]) (TT := TX10) (N := 28) (c_X10_feed h1) (by decide) (by decide) (isO_x 21 9 (by decide)) rfl mi_606 mi_607 mi_608 mw_7 mi_609 hyX10_feed rfl rfl (Nat.le_of_ble_eq_true rfl) dL_law_151 (fun r2 u2 h2 => ?_)
  exact lx_eq X (tgt := 394) dL_law_154 (by decide) (fun _ => next u2 h2.2) (fun q => absurd h2.1 q)
set_option maxRecDepth 100000 in
theorem cs_end {E : gx_E} {b L : Nat} {xs : Nat → Int32} {u : gx_S} {hc kc : Nat → Int32} (X : lx_X E b L xs) {i : Nat} (hi : i + 6 ≤ L) (hI : Inv hc kc u) (next : ∀ u', Inv hc kc u' → lx_Wc E b 394 (lvL E b i) [] u') : lx_Wc E b 159 (lvL E b i) [] u := by
  refine lx_al X (j := 1) dL_law_159 rfl rfl ?_
  refine lx_ld X (n := 1) (by omega) dL_law_160 dL_law_161 dL_law_162 (by decide) dL_law_163 dL_law_164 ?_
  refine lx_call X (o := 0) (ci := 5) (As := [.int (xs (i + 1))]) (rest := []) (TT := TX6) (N := 6) (c_X6_end (pr_end hI _)) (by decide) (by decide) (isO_x 0 5 (by decide)) rfl mi_139 mi_140 mi_141 mw_1 mi_142 hyX6_end rfl rfl (Nat.le_of_ble_eq_true rfl) dL_law_165 (fun r u1 h1 => ?_)
  refine lx_al X (j := 2) dL_law_168 rfl rfl ?_
  refine lx_ld X (n := 1) (by omega) dL_law_169 dL_law_170 dL_law_171 (by decide) dL_law_172 dL_law_173 ?_
  refine lx_call X (o := 21) (ci := 9) (As := [.int (xs (i + 1))]) (rest := [.int r]) (TT := TX10) (N := 28) (c_X10_end h1) (by decide) (by decide) (isO_x 21 9 (by decide)) rfl mi_614 mi_615 mi_616 mw_7 mi_617 hyX10_end rfl rfl (Nat.le_of_ble_eq_true rfl) dL_law_174 (fun r2 u2 h2 => ?_)
  exact lx_eq X (tgt := 394) dL_law_177 (by decide) (fun _ => next u2 h2.2) (fun q => absurd h2.1 q)
set_option maxRecDepth 100000 in
theorem cs_message {E : gx_E} {b L : Nat} {xs : Nat → Int32} {u : gx_S} {hc kc : Nat → Int32} (X : lx_X E b L xs) {i : Nat} (hi : i + 6 ≤ L) (hI : Inv hc kc u) (next : ∀ u', Inv hc kc u' → lx_Wc E b 394 (lvL E b i) [] u') : lx_Wc E b 182 (lvL E b i) [] u := by
  refine lx_al X (j := 1) dL_law_182 rfl rfl ?_
  refine lx_call X (o := 0) (ci := 5) (As := []) (rest := []) (TT := TX6) (N := 6) (c_X6_message (pr_message hI)) (by decide) (by decide) (isO_x 0 5 (by decide)) rfl mi_147 mi_148 mi_149 mw_1 mi_150 hyX6_message rfl rfl (Nat.le_of_ble_eq_true rfl) dL_law_183 (fun r u1 h1 => ?_)
  refine lx_al X (j := 2) dL_law_186 rfl rfl ?_
  refine lx_call X (o := 21) (ci := 9) (As := []) (rest := [.int r]) (TT := TX10) (N := 28) (c_X10_message h1) (by decide) (by decide) (isO_x 21 9 (by decide)) rfl mi_621 mi_622 mi_623 mw_7 mi_624 hyX10_message rfl rfl (Nat.le_of_ble_eq_true rfl) dL_law_187 (fun r2 u2 h2 => ?_)
  exact lx_eq X (tgt := 394) dL_law_190 (by decide) (fun _ => next u2 h2.2) (fun q => absurd h2.1 q)
set_option maxRecDepth 100000 in
theorem cs_plainBody {E : gx_E} {b L : Nat} {xs : Nat → Int32} {u : gx_S} {hc kc : Nat → Int32} (X : lx_X E b L xs) {i : Nat} (hi : i + 6 ≤ L) (hI : Inv hc kc u) (next : ∀ u', Inv hc kc u' → lx_Wc E b 394 (lvL E b i) [] u') : lx_Wc E b 195 (lvL E b i) [] u := by
  refine lx_al X (j := 1) dL_law_195 rfl rfl ?_
  refine lx_ld X (n := 1) (by omega) dL_law_196 dL_law_197 dL_law_198 (by decide) dL_law_199 dL_law_200 ?_
  refine lx_bool X dL_law_201 dL_law_204 dL_law_205 dL_law_208 ?_
  refine lx_call X (o := 0) (ci := 5) (As := [.int (b2 (decide (xs (i + 1) ≠ 0)))]) (rest := []) (TT := TX6) (N := 6) (c_X6_plainBody (pr_plainBody hI _)) (by decide) (by decide) (isO_x 0 5 (by decide)) rfl mi_201 mi_202 mi_203 mw_1 mi_204 hyX6_plainBody rfl rfl (Nat.le_of_ble_eq_true rfl) dL_law_209 (fun r u1 h1 => ?_)
  refine lx_al X (j := 2) dL_law_212 rfl rfl ?_
  refine lx_ld X (n := 1) (by omega) dL_law_213 dL_law_214 dL_law_215 (by decide) dL_law_216 dL_law_217 ?_
  refine lx_bool X dL_law_218 dL_law_221 dL_law_222 dL_law_225 ?_
  refine lx_call X (o := 21) (ci := 9) (As := [.int (b2 (decide (xs (i + 1) ≠ 0)))]) (rest := [.int r]) (TT := TX10) (N := 28) (c_X10_plainBody h1) (by decide) (by decide) (isO_x 21 9 (by decide)) rfl mi_649 mi_650 mi_651 mw_7 mi_652 hyX10_plainBody rfl rfl (Nat.le_of_ble_eq_true rfl) dL_law_226 (fun r2 u2 h2 => ?_)
  exact lx_eq X (tgt := 394) dL_law_229 (by decide) (fun _ => next u2 h2.2) (fun q => absurd h2.1 q)
set_option maxRecDepth 100000 in
theorem cs_plainField {E : gx_E} {b L : Nat} {xs : Nat → Int32} {u : gx_S} {hc kc : Nat → Int32} (X : lx_X E b L xs) {i : Nat} (hi : i + 6 ≤ L) (hI : Inv hc kc u) (next : ∀ u', Inv hc kc u' → lx_Wc E b 394 (lvL E b i) [] u') : lx_Wc E b 234 (lvL E b i) [] u := by
  refine lx_al X (j := 1) dL_law_234 rfl rfl ?_
  refine lx_ld X (n := 1) (by omega) dL_law_235 dL_law_236 dL_law_237 (by decide) dL_law_238 dL_law_239 ?_
  refine lx_ld X (n := 2) (by omega) dL_law_240 dL_law_241 dL_law_242 (by decide) dL_law_243 dL_law_244 ?_
  refine lx_bool X dL_law_245 dL_law_248 dL_law_249 dL_law_252 ?_
  refine lx_call X (o := 0) (ci := 5) (As := [.int (xs (i + 1)), .int (b2 (decide (xs (i + 2) ≠ 0)))]) (rest := []) (TT := TX6) (N := 6) (c_X6_plainField (pr_plainField hI _ _)) (by decide) (by decide) (isO_x 0 5 (by decide)) rfl mi_219 mi_220 mi_221 mw_1 mi_222 hyX6_plainField rfl rfl (Nat.le_of_ble_eq_true rfl) dL_law_253 (fun r u1 h1 => ?_)
  refine lx_al X (j := 2) dL_law_256 rfl rfl ?_
  refine lx_ld X (n := 1) (by omega) dL_law_257 dL_law_258 dL_law_259 (by decide) dL_law_260 dL_law_261 ?_
  refine lx_ld X (n := 2) (by omega) dL_law_262 dL_law_263 dL_law_264 (by decide) dL_law_265 dL_law_266 ?_
  refine lx_bool X dL_law_267 dL_law_270 dL_law_271 dL_law_274 ?_
  refine lx_call X (o := 21) (ci := 9) (As := [.int (xs (i + 1)), .int (b2 (decide (xs (i + 2) ≠ 0)))]) (rest := [.int r]) (TT := TX10) (N := 28) (c_X10_plainField h1) (by decide) (by decide) (isO_x 21 9 (by decide)) rfl mi_665 mi_666 mi_667 mw_7 mi_668 hyX10_plainField rfl rfl (Nat.le_of_ble_eq_true rfl) dL_law_275 (fun r2 u2 h2 => ?_)
  exact lx_eq X (tgt := 394) dL_law_278 (by decide) (fun _ => next u2 h2.2) (fun q => absurd h2.1 q)
set_option maxRecDepth 100000 in
theorem cs_named {E : gx_E} {b L : Nat} {xs : Nat → Int32} {u : gx_S} {hc kc : Nat → Int32} (X : lx_X E b L xs) {i : Nat} (hi : i + 6 ≤ L) (hI : Inv hc kc u) (next : ∀ u', Inv hc kc u' → lx_Wc E b 394 (lvL E b i) [] u') : lx_Wc E b 283 (lvL E b i) [] u := by
  refine lx_al X (j := 1) dL_law_283 rfl rfl ?_
  refine lx_call X (o := 0) (ci := 5) (As := []) (rest := []) (TT := TX6) (N := 6) (c_X6_named (pr_named hI)) (by decide) (by decide) (isO_x 0 5 (by decide)) rfl mi_244 mi_245 mi_246 mw_1 mi_247 hyX6_named rfl rfl (Nat.le_of_ble_eq_true rfl) dL_law_284 (fun r u1 h1 => ?_)
  refine lx_al X (j := 2) dL_law_287 rfl rfl ?_
  refine lx_call X (o := 21) (ci := 9) (As := []) (rest := [.int r]) (TT := TX10) (N := 28) (c_X10_named h1) (by decide) (by decide) (isO_x 21 9 (by decide)) rfl mi_680 mi_681 mi_682 mw_7 mi_683 hyX10_named rfl rfl (Nat.le_of_ble_eq_true rfl) dL_law_288 (fun r2 u2 h2 => ?_)
  exact lx_eq X (tgt := 394) dL_law_291 (by decide) (fun _ => next u2 h2.2) (fun q => absurd h2.1 q)
set_option maxRecDepth 100000 in
theorem cs_tags {E : gx_E} {b L : Nat} {xs : Nat → Int32} {u : gx_S} {hc kc : Nat → Int32} (X : lx_X E b L xs) {i : Nat} (hi : i + 6 ≤ L) (hI : Inv hc kc u) (next : ∀ u', Inv hc kc u' → lx_Wc E b 394 (lvL E b i) [] u') : lx_Wc E b 296 (lvL E b i) [] u := by
  refine lx_al X (j := 1) dL_law_296 rfl rfl ?_
  refine lx_call X (o := 0) (ci := 5) (As := []) (rest := []) (TT := TX6) (N := 6) (c_X6_tags (pr_tags hI)) (by decide) (by decide) (isO_x 0 5 (by decide)) rfl mi_256 mi_257 mi_258 mw_1 mi_259 hyX6_tags rfl rfl (Nat.le_of_ble_eq_true rfl) dL_law_297 (fun r u1 h1 => ?_)
  refine lx_al X (j := 2) dL_law_300 rfl rfl ?_
  refine lx_call X (o := 21) (ci := 9) (As := []) (rest := [.int r]) (TT := TX10) (N := 28) (c_X10_tags h1) (by decide) (by decide) (isO_x 21 9 (by decide)) rfl mi_684 mi_685 mi_686 mw_7 mi_687 hyX10_tags rfl rfl (Nat.le_of_ble_eq_true rfl) dL_law_301 (fun r2 u2 h2 => ?_)
  exact lx_eq X (tgt := 394) dL_law_304 (by decide) (fun _ => next u2 h2.2) (fun q => absurd h2.1 q)
set_option maxRecDepth 100000 in
theorem cs_tag {E : gx_E} {b L : Nat} {xs : Nat → Int32} {u : gx_S} {hc kc : Nat → Int32} (X : lx_X E b L xs) {i : Nat} (hi : i + 6 ≤ L) (hI : Inv hc kc u) (next : ∀ u', Inv hc kc u' → lx_Wc E b 394 (lvL E b i) [] u') : lx_Wc E b 309 (lvL E b i) [] u := by
  refine lx_al X (j := 1) dL_law_309 rfl rfl ?_
  refine lx_call X (o := 0) (ci := 5) (As := []) (rest := []) (TT := TX6) (N := 6) (c_X6_tag (pr_tag hI)) (by decide) (by decide) (isO_x 0 5 (by decide)) rfl mi_290 mi_291 mi_292 mw_1 mi_293 hyX6_tag rfl rfl (Nat.le_of_ble_eq_true rfl) dL_law_310 (fun r u1 h1 => ?_)
  refine lx_al X (j := 2) dL_law_313 rfl rfl ?_
  refine lx_call X (o := 21) (ci := 9) (As := []) (rest := [.int r]) (TT := TX10) (N := 28) (c_X10_tag h1) (by decide) (by decide) (isO_x 21 9 (by decide)) rfl mi_698 mi_699 mi_700 mw_7 mi_701 hyX10_tag rfl rfl (Nat.le_of_ble_eq_true rfl) dL_law_314 (fun r2 u2 h2 => ?_)
  exact lx_eq X (tgt := 394) dL_law_317 (by decide) (fun _ => next u2 h2.2) (fun q => absurd h2.1 q)
set_option maxRecDepth 100000 in
theorem cs_decode {E : gx_E} {b L : Nat} {xs : Nat → Int32} {u : gx_S} {hc kc : Nat → Int32} (X : lx_X E b L xs) {i : Nat} (hi : i + 6 ≤ L) (hI : Inv hc kc u) (next : ∀ u', Inv hc kc u' → lx_Wc E b 394 (lvL E b i) [] u') : lx_Wc E b 322 (lvL E b i) [] u := by
  refine lx_al X (j := 1) dL_law_322 rfl rfl ?_
  refine lx_ld X (n := 1) (by omega) dL_law_323 dL_law_324 dL_law_325 (by decide) dL_law_326 dL_law_327 ?_
  refine lx_call X (o := 0) (ci := 5) (As := [.int (xs (i + 1))]) (rest := []) (TT := TX6) (N := 6) (c_X6_decode (pr_decode hI _)) (by decide) (by decide) (isO_x 0 5 (by decide)) rfl mi_300 mi_301 mi_302 mw_1 mi_303 hyX6_decode rfl rfl (Nat.le_of_ble_eq_true rfl) dL_law_328 (fun r u1 h1 => ?_)
  refine lx_al X (j := 2) dL_law_331 rfl rfl ?_
  refine lx_ld X (n := 1) (by omega) dL_law_332 dL_law_333 dL_law_334 (by decide) dL_law_335 dL_law_336 ?_
  refine lx_call X (o := 21) (ci := 9) (As := [.int (xs (i + 1))]) (rest := [.int r]) (TT := TX10) (N := 28) (c_X10_decode h1) (by decide) (by decide) (isO_x 21 9 (by decide)) rfl mi_706 mi_707 mi_708 mw_7 mi_709 hyX10_decode rfl rfl (Nat.le_of_ble_eq_true rfl) dL_law_337 (fun r2 u2 h2 => ?_)
  exact lx_eq X (tgt := 394) dL_law_340 (by decide) (fun _ => next u2 h2.2) (fun q => absurd h2.1 q)
set_option maxRecDepth 100000 in
theorem cs_digest {E : gx_E} {b L : Nat} {xs : Nat → Int32} {u : gx_S} {hc kc : Nat → Int32} (X : lx_X E b L xs) {i : Nat} (hi : i + 6 ≤ L) (hI : Inv hc kc u) (next : ∀ u', Inv hc kc u' → lx_Wc E b 394 (lvL E b i) [] u') : lx_Wc E b 345 (lvL E b i) [] u := by
  refine lx_al X (j := 1) dL_law_345 rfl rfl ?_
  refine lx_call X (o := 0) (ci := 5) (As := []) (rest := []) (TT := TX6) (N := 6) (c_X6_digest (pr_digest hI)) (by decide) (by decide) (isO_x 0 5 (by decide)) rfl mi_326 mi_327 mi_328 mw_1 mi_329 hyX6_digest rfl rfl (Nat.le_of_ble_eq_true rfl) dL_law_346 (fun r u1 h1 => ?_)
  refine lx_al X (j := 2) dL_law_349 rfl rfl ?_
  refine lx_call X (o := 21) (ci := 9) (As := []) (rest := [.int r]) (TT := TX10) (N := 28) (c_X10_digest_ h1) (by decide) (by decide) (isO_x 21 9 (by decide)) rfl mi_714 mi_715 mi_716 mw_7 mi_717 hyX10_digest_ rfl rfl (Nat.le_of_ble_eq_true rfl) dL_law_350 (fun r2 u2 h2 => ?_)
  exact lx_eq X (tgt := 394) dL_law_353 (by decide) (fun _ => next u2 h2.2) (fun q => absurd h2.1 q)
set_option maxRecDepth 100000 in
theorem cs_power {E : gx_E} {b L : Nat} {xs : Nat → Int32} {u : gx_S} {hc kc : Nat → Int32} (X : lx_X E b L xs) {i : Nat} (hi : i + 6 ≤ L) (hI : Inv hc kc u) (next : ∀ u', Inv hc kc u' → lx_Wc E b 394 (lvL E b i) [] u') : lx_Wc E b 358 (lvL E b i) [] u := by
  refine lx_al X (j := 1) dL_law_358 rfl rfl ?_
  refine lx_call X (o := 0) (ci := 5) (As := []) (rest := []) (TT := TX6) (N := 6) (c_X6_power (pr_power hI)) (by decide) (by decide) (isO_x 0 5 (by decide)) rfl mi_366 mi_367 mi_368 mw_1 mi_369 hyX6_power rfl rfl (Nat.le_of_ble_eq_true rfl) dL_law_359 (fun r u1 h1 => ?_)
  refine lx_al X (j := 2) dL_law_362 rfl rfl ?_
  refine lx_call X (o := 21) (ci := 9) (As := []) (rest := [.int r]) (TT := TX10) (N := 28) (c_X10_power h1) (by decide) (by decide) (isO_x 21 9 (by decide)) rfl mi_751 mi_752 mi_753 mw_7 mi_754 hyX10_power rfl rfl (Nat.le_of_ble_eq_true rfl) dL_law_363 (fun r2 u2 h2 => ?_)
  exact lx_eq X (tgt := 394) dL_law_366 (by decide) (fun _ => next u2 h2.2) (fun q => absurd h2.1 q)
set_option maxRecDepth 100000 in
theorem cs_octet {E : gx_E} {b L : Nat} {xs : Nat → Int32} {u : gx_S} {hc kc : Nat → Int32} (X : lx_X E b L xs) {i : Nat} (hi : i + 6 ≤ L) (hI : Inv hc kc u) (next : ∀ u', Inv hc kc u' → lx_Wc E b 394 (lvL E b i) [] u') : lx_Wc E b 371 (lvL E b i) [] u := by
  refine lx_al X (j := 1) dL_law_371 rfl rfl ?_
  refine lx_ld X (n := 1) (by omega) dL_law_372 dL_law_373 dL_law_374 (by decide) dL_law_375 dL_law_376 ?_
  refine lx_call X (o := 0) (ci := 5) (As := [.int (xs (i + 1))]) (rest := []) (TT := TX6) (N := 6) (c_X6_octet (pr_octet hI _)) (by decide) (by decide) (isO_x 0 5 (by decide)) rfl mi_422 mi_423 mi_424 mw_1 mi_425 hyX6_octet rfl rfl (Nat.le_of_ble_eq_true rfl) dL_law_377 (fun r u1 h1 => ?_)
  refine lx_al X (j := 2) dL_law_380 rfl rfl ?_
  refine lx_ld X (n := 1) (by omega) dL_law_381 dL_law_382 dL_law_383 (by decide) dL_law_384 dL_law_385 ?_
  refine lx_call X (o := 21) (ci := 9) (As := [.int (xs (i + 1))]) (rest := [.int r]) (TT := TX10) (N := 28) (c_X10_octet h1) (by decide) (by decide) (isO_x 21 9 (by decide)) rfl mi_774 mi_775 mi_776 mw_7 mi_777 hyX10_octet rfl rfl (Nat.le_of_ble_eq_true rfl) dL_law_386 (fun r2 u2 h2 => ?_)
  exact lx_eq X (tgt := 394) dL_law_389 (by decide) (fun _ => next u2 h2.2) (fun q => absurd h2.1 q)
set_option maxRecDepth 100000 in
theorem law_loop {E : gx_E} {b L : Nat} {xs : Nat → Int32} {hc kc : Nat → Int32} (X : lx_X E b L xs) : ∀ (n i : Nat) (u : gx_S), L - i < n → i < 4000 → Inv hc kc u → lx_Wc E b 18 (lvL E b i) [] u := by
  intro n
  induction n with
  | zero => intro i u h; omega
  | succ n ih =>
    intro i u hn hi4 hI
    have X' := X
    obtain ⟨hx, hb, hml, hown, htb, hK, hr, hlk, hX, hbl, hA, hL⟩ := X
    have hbA : ¬ gx_A (ex_Z E) b := fun q => absurd (hA b q) (by omega)
    have e6 : (nI L - (6 : Int32)).toInt = (L : Int) - 6 := pk_sub_toInt (b := 6) (by omega) (by omega)
    intro H locs ls hl hw hs
    refine lv_iload_n hx hb dL_law_18 rfl (lv_at hl 3 rfl) ?_
    refine lv_aload_n hx hb dL_law_19 rfl (lv_at hl 0 rfl) ?_
    refine va_slen hx hb hX hbl hbA hs dL_law_20 ?_
    refine lv_bipush (v := 6) hx hb dL_law_21 (by decide) ?_
    refine lv_isub hx hb dL_law_23 ?_
    refine lv_icmp_gt (tgt := 400) hx hb dL_law_24 (by decide) (fun q => ?_) (fun q => ?_)
    · refine lv_iconst (v := 1) hx hb dL_law_400 (by decide) ?_
      refine va_forget (fun q hq => hA _ (hs.2.2 q hq)) ?_
      refine W.widen (k := 600000) (n := 7302250) (by omega) (by omega) ?_
      exact lw_ret hx hb hr hlk dL_law_401
    · have hi : i + 6 ≤ L := by
        have q : ¬ (nI L - (6 : Int32)) < nI i := q
        rw [Int32.lt_iff_toInt_lt, e6, nI_toInt (by omega)] at q
        omega
      have next : ∀ u', Inv hc kc u' → lx_Wc E b 394 (lvL E b i) [] u' := fun u' hI' H locs ls hl hw hs => by
        refine lv_iinc (v := nI (i + 6)) (lv' := [(3, .int (nI (i + 6))), (0, .ref b), (1, .ref (ex_ad E 0)), (2, .ref (ex_ad E 21))]) hx hb dL_law_394 hl (k := 3) rfl (by rw [← nI_add]; rfl) (by decide) rfl (fun ls hl => ?_)
        refine lv_goto (tgt := 18) hx hb dL_law_397 (by decide) ?_
        exact ih (i + 6) u' (by omega) (by omega) hI' H locs ls (lv_sub hl [1, 2, 3, 0] rfl) hw hs
      refine lv_aload_n hx hb dL_law_27 rfl (lv_at hl 0 rfl) ?_
      refine lv_iload_n hx hb dL_law_28 rfl (lv_at hl 3 rfl) ?_
      refine va_sld hx hb hX hbl hbA hs (vp_in_nI (N := L) (by omega) (by omega)) dL_law_29 ?_
      rw [nI_clamp (by omega)]
      refine lv_bipush (v := 15) hx hb dL_law_30 (by decide) ?_
      refine lv_iand hx hb dL_law_32 ?_
      obtain ⟨v, hv, ev⟩ := pk_andE (xs i) (m := 15) 4 (by decide)
      rw [ev]
      have hv : v < 16 := hv
      have : v = 0 ∨ v = 1 ∨ v = 2 ∨ v = 3 ∨ v = 4 ∨ v = 5 ∨ v = 6 ∨ v = 7 ∨ v = 8 ∨ v = 9 ∨ v = 10 ∨ v = 11 ∨ 12 ≤ v := by omega
      rcases this with rfl | rfl | rfl | rfl | rfl | rfl | rfl | rfl | rfl | rfl | rfl | rfl | hv12
      · exact lv_tableIn (off := 63) (tgt := 96) hx hb dL_law_33 (by decide) (by decide) (by decide) (by decide) (cs_feed X' hi hI next H locs ls hl hw hs)
      · exact lv_tableIn (off := 126) (tgt := 159) hx hb dL_law_33 (by decide) (by decide) (by decide) (by decide) (cs_end X' hi hI next H locs ls hl hw hs)
      · exact lv_tableIn (off := 149) (tgt := 182) hx hb dL_law_33 (by decide) (by decide) (by decide) (by decide) (cs_message X' hi hI next H locs ls hl hw hs)
      · exact lv_tableIn (off := 162) (tgt := 195) hx hb dL_law_33 (by decide) (by decide) (by decide) (by decide) (cs_plainBody X' hi hI next H locs ls hl hw hs)
      · exact lv_tableIn (off := 201) (tgt := 234) hx hb dL_law_33 (by decide) (by decide) (by decide) (by decide) (cs_plainField X' hi hI next H locs ls hl hw hs)
      · exact lv_tableIn (off := 250) (tgt := 283) hx hb dL_law_33 (by decide) (by decide) (by decide) (by decide) (cs_named X' hi hI next H locs ls hl hw hs)
      · exact lv_tableIn (off := 263) (tgt := 296) hx hb dL_law_33 (by decide) (by decide) (by decide) (by decide) (cs_tags X' hi hI next H locs ls hl hw hs)
      · exact lv_tableIn (off := 276) (tgt := 309) hx hb dL_law_33 (by decide) (by decide) (by decide) (by decide) (cs_tag X' hi hI next H locs ls hl hw hs)
      · exact lv_tableIn (off := 289) (tgt := 322) hx hb dL_law_33 (by decide) (by decide) (by decide) (by decide) (cs_decode X' hi hI next H locs ls hl hw hs)
      · exact lv_tableIn (off := 312) (tgt := 345) hx hb dL_law_33 (by decide) (by decide) (by decide) (by decide) (cs_digest X' hi hI next H locs ls hl hw hs)
      · exact lv_tableIn (off := 325) (tgt := 358) hx hb dL_law_33 (by decide) (by decide) (by decide) (by decide) (cs_power X' hi hI next H locs ls hl hw hs)
      · exact lv_tableIn (off := 338) (tgt := 371) hx hb dL_law_33 (by decide) (by decide) (by decide) (by decide) (cs_octet X' hi hI next H locs ls hl hw hs)
      · exact lv_tableOut (tgt := 394) hx hb dL_law_33 (Or.inr (by rw [nI_toInt (by omega)]; omega)) (by decide) (next u hI H locs ls hl hw hs)
