theorem v_in1 {w : Cond} (h : w ∈ tables_1_1) (hg : goodWord w = true) : w ∈ v_Ts := List.mem_filter.mpr ⟨List.mem_append_right _ (List.mem_append_left _ h), hg⟩
theorem v_in2 {w : Cond} (h : w ∈ tables_1_2) (hg : goodWord w = true) : w ∈ v_Ts := List.mem_filter.mpr ⟨List.mem_append_right _ (List.mem_append_right _ (List.mem_append_left _ h)), hg⟩
theorem v_in3 {w : Cond} (h : w ∈ tables_1_3) (hg : goodWord w = true) : w ∈ v_Ts := List.mem_filter.mpr ⟨List.mem_append_right _ (List.mem_append_right _ (List.mem_append_right _ (List.mem_append_left _ h))), hg⟩
theorem v_in4 {w : Cond} (h : w ∈ tables_1_4) (hg : goodWord w = true) : w ∈ v_Ts := List.mem_filter.mpr ⟨List.mem_append_right _ (List.mem_append_right _ (List.mem_append_right _ (List.mem_append_right _ (List.mem_append_left _ h)))), hg⟩
theorem v_in5 {w : Cond} (h : w ∈ tables_1_5) (hg : goodWord w = true) : w ∈ v_Ts := List.mem_filter.mpr ⟨List.mem_append_right _ (List.mem_append_right _ (List.mem_append_right _ (List.mem_append_right _ (List.mem_append_right _ (List.mem_append_left _ h))))), hg⟩
theorem v_in6 {w : Cond} (h : w ∈ tables_1_6) (hg : goodWord w = true) : w ∈ v_Ts := List.mem_filter.mpr ⟨List.mem_append_right _ (List.mem_append_right _ (List.mem_append_right _ (List.mem_append_right _ (List.mem_append_right _ (List.mem_append_right _ (h)))))), hg⟩
theorem vk0 : Cond.code (v_mt 0).1 (v_mt 0).2.1 (v_mt 0).2.2.1 (v_mt 0).2.2.2.1 ∈ v_Ts := v_in1 (List.mem_of_getElem? (i := 20) rfl) rfl
theorem vk1 : Cond.code (v_mt 1).1 (v_mt 1).2.1 (v_mt 1).2.2.1 (v_mt 1).2.2.2.1 ∈ v_Ts := v_in1 (List.mem_of_getElem? (i := 28) rfl) rfl
theorem vk2 : Cond.code (v_mt 2).1 (v_mt 2).2.1 (v_mt 2).2.2.1 (v_mt 2).2.2.2.1 ∈ v_Ts := v_in1 (List.mem_of_getElem? (i := 47) rfl) rfl
theorem vk3 : Cond.code (v_mt 3).1 (v_mt 3).2.1 (v_mt 3).2.2.1 (v_mt 3).2.2.2.1 ∈ v_Ts := v_in1 (List.mem_of_getElem? (i := 53) rfl) rfl
theorem vk4 : Cond.code (v_mt 4).1 (v_mt 4).2.1 (v_mt 4).2.2.1 (v_mt 4).2.2.2.1 ∈ v_Ts := v_in1 (List.mem_of_getElem? (i := 119) rfl) rfl
theorem vk5 : Cond.code (v_mt 5).1 (v_mt 5).2.1 (v_mt 5).2.2.1 (v_mt 5).2.2.2.1 ∈ v_Ts := v_in1 (List.mem_of_getElem? (i := 145) rfl) rfl
theorem vk6 : Cond.code (v_mt 6).1 (v_mt 6).2.1 (v_mt 6).2.2.1 (v_mt 6).2.2.2.1 ∈ v_Ts := v_in1 (List.mem_of_getElem? (i := 172) rfl) rfl
theorem vk7 : Cond.code (v_mt 7).1 (v_mt 7).2.1 (v_mt 7).2.2.1 (v_mt 7).2.2.2.1 ∈ v_Ts := v_in1 (List.mem_of_getElem? (i := 178) rfl) rfl
theorem vk8 : Cond.code (v_mt 8).1 (v_mt 8).2.1 (v_mt 8).2.2.1 (v_mt 8).2.2.2.1 ∈ v_Ts := v_in1 (List.mem_of_getElem? (i := 196) rfl) rfl
theorem vk9 : Cond.code (v_mt 9).1 (v_mt 9).2.1 (v_mt 9).2.2.1 (v_mt 9).2.2.2.1 ∈ v_Ts := v_in1 (List.mem_of_getElem? (i := 216) rfl) rfl
theorem vk10 : Cond.code (v_mt 10).1 (v_mt 10).2.1 (v_mt 10).2.2.1 (v_mt 10).2.2.2.1 ∈ v_Ts := v_in1 (List.mem_of_getElem? (i := 227) rfl) rfl
theorem vk11 : Cond.code (v_mt 11).1 (v_mt 11).2.1 (v_mt 11).2.2.1 (v_mt 11).2.2.2.1 ∈ v_Ts := v_in2 (List.mem_of_getElem? (i := 4) rfl) rfl
theorem vk12 : Cond.code (v_mt 12).1 (v_mt 12).2.1 (v_mt 12).2.2.1 (v_mt 12).2.2.2.1 ∈ v_Ts := v_in2 (List.mem_of_getElem? (i := 88) rfl) rfl
theorem vk13 : Cond.code (v_mt 13).1 (v_mt 13).2.1 (v_mt 13).2.2.1 (v_mt 13).2.2.2.1 ∈ v_Ts := v_in2 (List.mem_of_getElem? (i := 92) rfl) rfl
theorem vk14 : Cond.code (v_mt 14).1 (v_mt 14).2.1 (v_mt 14).2.2.1 (v_mt 14).2.2.2.1 ∈ v_Ts := v_in2 (List.mem_of_getElem? (i := 96) rfl) rfl
theorem vk15 : Cond.code (v_mt 15).1 (v_mt 15).2.1 (v_mt 15).2.2.1 (v_mt 15).2.2.2.1 ∈ v_Ts := v_in2 (List.mem_of_getElem? (i := 100) rfl) rfl
theorem vk16 : Cond.code (v_mt 16).1 (v_mt 16).2.1 (v_mt 16).2.2.1 (v_mt 16).2.2.2.1 ∈ v_Ts := v_in2 (List.mem_of_getElem? (i := 104) rfl) rfl
theorem vk17 : Cond.code (v_mt 17).1 (v_mt 17).2.1 (v_mt 17).2.2.1 (v_mt 17).2.2.2.1 ∈ v_Ts := v_in2 (List.mem_of_getElem? (i := 108) rfl) rfl
theorem vk18 : Cond.code (v_mt 18).1 (v_mt 18).2.1 (v_mt 18).2.2.1 (v_mt 18).2.2.2.1 ∈ v_Ts := v_in2 (List.mem_of_getElem? (i := 112) rfl) rfl
theorem vk19 : Cond.code (v_mt 19).1 (v_mt 19).2.1 (v_mt 19).2.2.1 (v_mt 19).2.2.2.1 ∈ v_Ts := v_in2 (List.mem_of_getElem? (i := 117) rfl) rfl
theorem vk20 : Cond.code (v_mt 20).1 (v_mt 20).2.1 (v_mt 20).2.2.1 (v_mt 20).2.2.2.1 ∈ v_Ts := v_in2 (List.mem_of_getElem? (i := 120) rfl) rfl
theorem vk21 : Cond.code (v_mt 21).1 (v_mt 21).2.1 (v_mt 21).2.2.1 (v_mt 21).2.2.2.1 ∈ v_Ts := v_in2 (List.mem_of_getElem? (i := 124) rfl) rfl
theorem vk22 : Cond.code (v_mt 22).1 (v_mt 22).2.1 (v_mt 22).2.2.1 (v_mt 22).2.2.2.1 ∈ v_Ts := v_in2 (List.mem_of_getElem? (i := 128) rfl) rfl
theorem vk23 : Cond.code (v_mt 23).1 (v_mt 23).2.1 (v_mt 23).2.2.1 (v_mt 23).2.2.2.1 ∈ v_Ts := v_in2 (List.mem_of_getElem? (i := 132) rfl) rfl
theorem vk24 : Cond.code (v_mt 24).1 (v_mt 24).2.1 (v_mt 24).2.2.1 (v_mt 24).2.2.2.1 ∈ v_Ts := v_in2 (List.mem_of_getElem? (i := 136) rfl) rfl
theorem vk25 : Cond.code (v_mt 25).1 (v_mt 25).2.1 (v_mt 25).2.2.1 (v_mt 25).2.2.2.1 ∈ v_Ts := v_in2 (List.mem_of_getElem? (i := 140) rfl) rfl
theorem vk26 : Cond.code (v_mt 26).1 (v_mt 26).2.1 (v_mt 26).2.2.1 (v_mt 26).2.2.2.1 ∈ v_Ts := v_in2 (List.mem_of_getElem? (i := 144) rfl) rfl
theorem vk27 : Cond.code (v_mt 27).1 (v_mt 27).2.1 (v_mt 27).2.2.1 (v_mt 27).2.2.2.1 ∈ v_Ts := v_in2 (List.mem_of_getElem? (i := 148) rfl) rfl
theorem vk28 : Cond.code (v_mt 28).1 (v_mt 28).2.1 (v_mt 28).2.2.1 (v_mt 28).2.2.2.1 ∈ v_Ts := v_in2 (List.mem_of_getElem? (i := 152) rfl) rfl
theorem vk29 : Cond.code (v_mt 29).1 (v_mt 29).2.1 (v_mt 29).2.2.1 (v_mt 29).2.2.2.1 ∈ v_Ts := v_in2 (List.mem_of_getElem? (i := 156) rfl) rfl
theorem vk30 : Cond.code (v_mt 30).1 (v_mt 30).2.1 (v_mt 30).2.2.1 (v_mt 30).2.2.2.1 ∈ v_Ts := v_in2 (List.mem_of_getElem? (i := 160) rfl) rfl
theorem vk31 : Cond.code (v_mt 31).1 (v_mt 31).2.1 (v_mt 31).2.2.1 (v_mt 31).2.2.2.1 ∈ v_Ts := v_in2 (List.mem_of_getElem? (i := 165) rfl) rfl
theorem vk32 : Cond.code (v_mt 32).1 (v_mt 32).2.1 (v_mt 32).2.2.1 (v_mt 32).2.2.2.1 ∈ v_Ts := v_in2 (List.mem_of_getElem? (i := 169) rfl) rfl
theorem vk33 : Cond.code (v_mt 33).1 (v_mt 33).2.1 (v_mt 33).2.2.1 (v_mt 33).2.2.2.1 ∈ v_Ts := v_in2 (List.mem_of_getElem? (i := 174) rfl) rfl
theorem vk34 : Cond.code (v_mt 34).1 (v_mt 34).2.1 (v_mt 34).2.2.1 (v_mt 34).2.2.2.1 ∈ v_Ts := v_in2 (List.mem_of_getElem? (i := 178) rfl) rfl
theorem vk35 : Cond.code (v_mt 35).1 (v_mt 35).2.1 (v_mt 35).2.2.1 (v_mt 35).2.2.2.1 ∈ v_Ts := v_in2 (List.mem_of_getElem? (i := 182) rfl) rfl
theorem vk36 : Cond.code (v_mt 36).1 (v_mt 36).2.1 (v_mt 36).2.2.1 (v_mt 36).2.2.2.1 ∈ v_Ts := v_in2 (List.mem_of_getElem? (i := 186) rfl) rfl
theorem vk37 : Cond.code (v_mt 37).1 (v_mt 37).2.1 (v_mt 37).2.2.1 (v_mt 37).2.2.2.1 ∈ v_Ts := v_in2 (List.mem_of_getElem? (i := 190) rfl) rfl
theorem vk38 : Cond.code (v_mt 38).1 (v_mt 38).2.1 (v_mt 38).2.2.1 (v_mt 38).2.2.2.1 ∈ v_Ts := v_in2 (List.mem_of_getElem? (i := 194) rfl) rfl
theorem vk39 : Cond.code (v_mt 39).1 (v_mt 39).2.1 (v_mt 39).2.2.1 (v_mt 39).2.2.2.1 ∈ v_Ts := v_in2 (List.mem_of_getElem? (i := 198) rfl) rfl
theorem vk40 : Cond.code (v_mt 40).1 (v_mt 40).2.1 (v_mt 40).2.2.1 (v_mt 40).2.2.2.1 ∈ v_Ts := v_in2 (List.mem_of_getElem? (i := 202) rfl) rfl
theorem vk41 : Cond.code (v_mt 41).1 (v_mt 41).2.1 (v_mt 41).2.2.1 (v_mt 41).2.2.2.1 ∈ v_Ts := v_in2 (List.mem_of_getElem? (i := 206) rfl) rfl
theorem vk42 : Cond.code (v_mt 42).1 (v_mt 42).2.1 (v_mt 42).2.2.1 (v_mt 42).2.2.2.1 ∈ v_Ts := v_in2 (List.mem_of_getElem? (i := 209) rfl) rfl
theorem vk43 : Cond.code (v_mt 43).1 (v_mt 43).2.1 (v_mt 43).2.2.1 (v_mt 43).2.2.2.1 ∈ v_Ts := v_in2 (List.mem_of_getElem? (i := 212) rfl) rfl
theorem vk44 : Cond.code (v_mt 44).1 (v_mt 44).2.1 (v_mt 44).2.2.1 (v_mt 44).2.2.2.1 ∈ v_Ts := v_in2 (List.mem_of_getElem? (i := 216) rfl) rfl
theorem vk45 : Cond.code (v_mt 45).1 (v_mt 45).2.1 (v_mt 45).2.2.1 (v_mt 45).2.2.2.1 ∈ v_Ts := v_in2 (List.mem_of_getElem? (i := 220) rfl) rfl
theorem vk46 : Cond.code (v_mt 46).1 (v_mt 46).2.1 (v_mt 46).2.2.1 (v_mt 46).2.2.2.1 ∈ v_Ts := v_in2 (List.mem_of_getElem? (i := 223) rfl) rfl
theorem vk47 : Cond.code (v_mt 47).1 (v_mt 47).2.1 (v_mt 47).2.2.1 (v_mt 47).2.2.2.1 ∈ v_Ts := v_in2 (List.mem_of_getElem? (i := 226) rfl) rfl
theorem vk48 : Cond.code (v_mt 48).1 (v_mt 48).2.1 (v_mt 48).2.2.1 (v_mt 48).2.2.2.1 ∈ v_Ts := v_in2 (List.mem_of_getElem? (i := 229) rfl) rfl
theorem vk49 : Cond.code (v_mt 49).1 (v_mt 49).2.1 (v_mt 49).2.2.1 (v_mt 49).2.2.2.1 ∈ v_Ts := v_in2 (List.mem_of_getElem? (i := 233) rfl) rfl
theorem vk50 : Cond.code (v_mt 50).1 (v_mt 50).2.1 (v_mt 50).2.2.1 (v_mt 50).2.2.2.1 ∈ v_Ts := v_in2 (List.mem_of_getElem? (i := 237) rfl) rfl
theorem vk51 : Cond.code (v_mt 51).1 (v_mt 51).2.1 (v_mt 51).2.2.1 (v_mt 51).2.2.2.1 ∈ v_Ts := v_in3 (List.mem_of_getElem? (i := 1) rfl) rfl
theorem vk52 : Cond.code (v_mt 52).1 (v_mt 52).2.1 (v_mt 52).2.2.1 (v_mt 52).2.2.2.1 ∈ v_Ts := v_in3 (List.mem_of_getElem? (i := 5) rfl) rfl
theorem vk53 : Cond.code (v_mt 53).1 (v_mt 53).2.1 (v_mt 53).2.2.1 (v_mt 53).2.2.2.1 ∈ v_Ts := v_in3 (List.mem_of_getElem? (i := 9) rfl) rfl
theorem vk54 : Cond.code (v_mt 54).1 (v_mt 54).2.1 (v_mt 54).2.2.1 (v_mt 54).2.2.2.1 ∈ v_Ts := v_in3 (List.mem_of_getElem? (i := 13) rfl) rfl
theorem vk55 : Cond.code (v_mt 55).1 (v_mt 55).2.1 (v_mt 55).2.2.1 (v_mt 55).2.2.2.1 ∈ v_Ts := v_in3 (List.mem_of_getElem? (i := 17) rfl) rfl
theorem vk56 : Cond.code (v_mt 56).1 (v_mt 56).2.1 (v_mt 56).2.2.1 (v_mt 56).2.2.2.1 ∈ v_Ts := v_in3 (List.mem_of_getElem? (i := 21) rfl) rfl
theorem vk57 : Cond.code (v_mt 57).1 (v_mt 57).2.1 (v_mt 57).2.2.1 (v_mt 57).2.2.2.1 ∈ v_Ts := v_in3 (List.mem_of_getElem? (i := 26) rfl) rfl
theorem vk58 : Cond.code (v_mt 58).1 (v_mt 58).2.1 (v_mt 58).2.2.1 (v_mt 58).2.2.2.1 ∈ v_Ts := v_in3 (List.mem_of_getElem? (i := 30) rfl) rfl
theorem vk59 : Cond.code (v_mt 59).1 (v_mt 59).2.1 (v_mt 59).2.2.1 (v_mt 59).2.2.2.1 ∈ v_Ts := v_in3 (List.mem_of_getElem? (i := 37) rfl) rfl
theorem vk60 : Cond.code (v_mt 60).1 (v_mt 60).2.1 (v_mt 60).2.2.1 (v_mt 60).2.2.2.1 ∈ v_Ts := v_in3 (List.mem_of_getElem? (i := 41) rfl) rfl
theorem vk61 : Cond.code (v_mt 61).1 (v_mt 61).2.1 (v_mt 61).2.2.1 (v_mt 61).2.2.2.1 ∈ v_Ts := v_in3 (List.mem_of_getElem? (i := 45) rfl) rfl
theorem vk62 : Cond.code (v_mt 62).1 (v_mt 62).2.1 (v_mt 62).2.2.1 (v_mt 62).2.2.2.1 ∈ v_Ts := v_in3 (List.mem_of_getElem? (i := 50) rfl) rfl
theorem vk63 : Cond.code (v_mt 63).1 (v_mt 63).2.1 (v_mt 63).2.2.1 (v_mt 63).2.2.2.1 ∈ v_Ts := v_in3 (List.mem_of_getElem? (i := 55) rfl) rfl
theorem vk64 : Cond.code (v_mt 64).1 (v_mt 64).2.1 (v_mt 64).2.2.1 (v_mt 64).2.2.2.1 ∈ v_Ts := v_in3 (List.mem_of_getElem? (i := 59) rfl) rfl
theorem vk65 : Cond.code (v_mt 65).1 (v_mt 65).2.1 (v_mt 65).2.2.1 (v_mt 65).2.2.2.1 ∈ v_Ts := v_in3 (List.mem_of_getElem? (i := 65) rfl) rfl
theorem vk66 : Cond.code (v_mt 66).1 (v_mt 66).2.1 (v_mt 66).2.2.1 (v_mt 66).2.2.2.1 ∈ v_Ts := v_in3 (List.mem_of_getElem? (i := 70) rfl) rfl
theorem vk67 : Cond.code (v_mt 67).1 (v_mt 67).2.1 (v_mt 67).2.2.1 (v_mt 67).2.2.2.1 ∈ v_Ts := v_in3 (List.mem_of_getElem? (i := 74) rfl) rfl
theorem vk68 : Cond.code (v_mt 68).1 (v_mt 68).2.1 (v_mt 68).2.2.1 (v_mt 68).2.2.2.1 ∈ v_Ts := v_in3 (List.mem_of_getElem? (i := 78) rfl) rfl
theorem vk69 : Cond.code (v_mt 69).1 (v_mt 69).2.1 (v_mt 69).2.2.1 (v_mt 69).2.2.2.1 ∈ v_Ts := v_in3 (List.mem_of_getElem? (i := 84) rfl) rfl
theorem vk70 : Cond.code (v_mt 70).1 (v_mt 70).2.1 (v_mt 70).2.2.1 (v_mt 70).2.2.2.1 ∈ v_Ts := v_in3 (List.mem_of_getElem? (i := 88) rfl) rfl
theorem vk71 : Cond.code (v_mt 71).1 (v_mt 71).2.1 (v_mt 71).2.2.1 (v_mt 71).2.2.2.1 ∈ v_Ts := v_in3 (List.mem_of_getElem? (i := 92) rfl) rfl
theorem vk72 : Cond.code (v_mt 72).1 (v_mt 72).2.1 (v_mt 72).2.2.1 (v_mt 72).2.2.2.1 ∈ v_Ts := v_in3 (List.mem_of_getElem? (i := 96) rfl) rfl
theorem vk73 : Cond.code (v_mt 73).1 (v_mt 73).2.1 (v_mt 73).2.2.1 (v_mt 73).2.2.2.1 ∈ v_Ts := v_in3 (List.mem_of_getElem? (i := 104) rfl) rfl
theorem vk74 : Cond.code (v_mt 74).1 (v_mt 74).2.1 (v_mt 74).2.2.1 (v_mt 74).2.2.2.1 ∈ v_Ts := v_in3 (List.mem_of_getElem? (i := 108) rfl) rfl
theorem vk75 : Cond.code (v_mt 75).1 (v_mt 75).2.1 (v_mt 75).2.2.1 (v_mt 75).2.2.2.1 ∈ v_Ts := v_in3 (List.mem_of_getElem? (i := 113) rfl) rfl
theorem vk76 : Cond.code (v_mt 76).1 (v_mt 76).2.1 (v_mt 76).2.2.1 (v_mt 76).2.2.2.1 ∈ v_Ts := v_in3 (List.mem_of_getElem? (i := 117) rfl) rfl
theorem vk77 : Cond.code (v_mt 77).1 (v_mt 77).2.1 (v_mt 77).2.2.1 (v_mt 77).2.2.2.1 ∈ v_Ts := v_in3 (List.mem_of_getElem? (i := 121) rfl) rfl
theorem vk78 : Cond.code (v_mt 78).1 (v_mt 78).2.1 (v_mt 78).2.2.1 (v_mt 78).2.2.2.1 ∈ v_Ts := v_in3 (List.mem_of_getElem? (i := 125) rfl) rfl
theorem vk79 : Cond.code (v_mt 79).1 (v_mt 79).2.1 (v_mt 79).2.2.1 (v_mt 79).2.2.2.1 ∈ v_Ts := v_in3 (List.mem_of_getElem? (i := 129) rfl) rfl
theorem vk80 : Cond.code (v_mt 80).1 (v_mt 80).2.1 (v_mt 80).2.2.1 (v_mt 80).2.2.2.1 ∈ v_Ts := v_in3 (List.mem_of_getElem? (i := 134) rfl) rfl
theorem vk81 : Cond.code (v_mt 81).1 (v_mt 81).2.1 (v_mt 81).2.2.1 (v_mt 81).2.2.2.1 ∈ v_Ts := v_in3 (List.mem_of_getElem? (i := 138) rfl) rfl
theorem vk82 : Cond.code (v_mt 82).1 (v_mt 82).2.1 (v_mt 82).2.2.1 (v_mt 82).2.2.2.1 ∈ v_Ts := v_in3 (List.mem_of_getElem? (i := 142) rfl) rfl
theorem vk83 : Cond.code (v_mt 83).1 (v_mt 83).2.1 (v_mt 83).2.2.1 (v_mt 83).2.2.2.1 ∈ v_Ts := v_in3 (List.mem_of_getElem? (i := 148) rfl) rfl
theorem vk84 : Cond.code (v_mt 84).1 (v_mt 84).2.1 (v_mt 84).2.2.1 (v_mt 84).2.2.2.1 ∈ v_Ts := v_in3 (List.mem_of_getElem? (i := 152) rfl) rfl
theorem vk85 : Cond.code (v_mt 85).1 (v_mt 85).2.1 (v_mt 85).2.2.1 (v_mt 85).2.2.2.1 ∈ v_Ts := v_in3 (List.mem_of_getElem? (i := 157) rfl) rfl
theorem vk86 : Cond.code (v_mt 86).1 (v_mt 86).2.1 (v_mt 86).2.2.1 (v_mt 86).2.2.2.1 ∈ v_Ts := v_in3 (List.mem_of_getElem? (i := 162) rfl) rfl
theorem vk87 : Cond.code (v_mt 87).1 (v_mt 87).2.1 (v_mt 87).2.2.1 (v_mt 87).2.2.2.1 ∈ v_Ts := v_in3 (List.mem_of_getElem? (i := 168) rfl) rfl
theorem vk88 : Cond.code (v_mt 88).1 (v_mt 88).2.1 (v_mt 88).2.2.1 (v_mt 88).2.2.2.1 ∈ v_Ts := v_in3 (List.mem_of_getElem? (i := 172) rfl) rfl
theorem vk89 : Cond.code (v_mt 89).1 (v_mt 89).2.1 (v_mt 89).2.2.1 (v_mt 89).2.2.2.1 ∈ v_Ts := v_in3 (List.mem_of_getElem? (i := 178) rfl) rfl
theorem vk90 : Cond.code (v_mt 90).1 (v_mt 90).2.1 (v_mt 90).2.2.1 (v_mt 90).2.2.2.1 ∈ v_Ts := v_in3 (List.mem_of_getElem? (i := 182) rfl) rfl
theorem vk91 : Cond.code (v_mt 91).1 (v_mt 91).2.1 (v_mt 91).2.2.1 (v_mt 91).2.2.2.1 ∈ v_Ts := v_in3 (List.mem_of_getElem? (i := 186) rfl) rfl
theorem vk92 : Cond.code (v_mt 92).1 (v_mt 92).2.1 (v_mt 92).2.2.1 (v_mt 92).2.2.2.1 ∈ v_Ts := v_in3 (List.mem_of_getElem? (i := 190) rfl) rfl
theorem vk93 : Cond.code (v_mt 93).1 (v_mt 93).2.1 (v_mt 93).2.2.1 (v_mt 93).2.2.2.1 ∈ v_Ts := v_in3 (List.mem_of_getElem? (i := 194) rfl) rfl
theorem vk94 : Cond.code (v_mt 94).1 (v_mt 94).2.1 (v_mt 94).2.2.1 (v_mt 94).2.2.2.1 ∈ v_Ts := v_in3 (List.mem_of_getElem? (i := 198) rfl) rfl
theorem vk95 : Cond.code (v_mt 95).1 (v_mt 95).2.1 (v_mt 95).2.2.1 (v_mt 95).2.2.2.1 ∈ v_Ts := v_in3 (List.mem_of_getElem? (i := 203) rfl) rfl
theorem vk96 : Cond.code (v_mt 96).1 (v_mt 96).2.1 (v_mt 96).2.2.1 (v_mt 96).2.2.2.1 ∈ v_Ts := v_in3 (List.mem_of_getElem? (i := 209) rfl) rfl
theorem vk97 : Cond.code (v_mt 97).1 (v_mt 97).2.1 (v_mt 97).2.2.1 (v_mt 97).2.2.2.1 ∈ v_Ts := v_in3 (List.mem_of_getElem? (i := 215) rfl) rfl
theorem vk98 : Cond.code (v_mt 98).1 (v_mt 98).2.1 (v_mt 98).2.2.1 (v_mt 98).2.2.2.1 ∈ v_Ts := v_in3 (List.mem_of_getElem? (i := 219) rfl) rfl
theorem vk99 : Cond.code (v_mt 99).1 (v_mt 99).2.1 (v_mt 99).2.2.1 (v_mt 99).2.2.2.1 ∈ v_Ts := v_in3 (List.mem_of_getElem? (i := 223) rfl) rfl
theorem vk100 : Cond.code (v_mt 100).1 (v_mt 100).2.1 (v_mt 100).2.2.1 (v_mt 100).2.2.2.1 ∈ v_Ts := v_in3 (List.mem_of_getElem? (i := 227) rfl) rfl
theorem vk101 : Cond.code (v_mt 101).1 (v_mt 101).2.1 (v_mt 101).2.2.1 (v_mt 101).2.2.2.1 ∈ v_Ts := v_in3 (List.mem_of_getElem? (i := 231) rfl) rfl
theorem vk102 : Cond.code (v_mt 102).1 (v_mt 102).2.1 (v_mt 102).2.2.1 (v_mt 102).2.2.2.1 ∈ v_Ts := v_in3 (List.mem_of_getElem? (i := 236) rfl) rfl
theorem vk103 : Cond.code (v_mt 103).1 (v_mt 103).2.1 (v_mt 103).2.2.1 (v_mt 103).2.2.2.1 ∈ v_Ts := v_in4 (List.mem_of_getElem? (i := 2) rfl) rfl
theorem vk104 : Cond.code (v_mt 104).1 (v_mt 104).2.1 (v_mt 104).2.2.1 (v_mt 104).2.2.2.1 ∈ v_Ts := v_in4 (List.mem_of_getElem? (i := 6) rfl) rfl
theorem vk105 : Cond.code (v_mt 105).1 (v_mt 105).2.1 (v_mt 105).2.2.1 (v_mt 105).2.2.2.1 ∈ v_Ts := v_in4 (List.mem_of_getElem? (i := 10) rfl) rfl
theorem vk106 : Cond.code (v_mt 106).1 (v_mt 106).2.1 (v_mt 106).2.2.1 (v_mt 106).2.2.2.1 ∈ v_Ts := v_in4 (List.mem_of_getElem? (i := 14) rfl) rfl
theorem vk107 : Cond.code (v_mt 107).1 (v_mt 107).2.1 (v_mt 107).2.2.1 (v_mt 107).2.2.2.1 ∈ v_Ts := v_in4 (List.mem_of_getElem? (i := 18) rfl) rfl
theorem vk108 : Cond.code (v_mt 108).1 (v_mt 108).2.1 (v_mt 108).2.2.1 (v_mt 108).2.2.2.1 ∈ v_Ts := v_in4 (List.mem_of_getElem? (i := 22) rfl) rfl
theorem vk109 : Cond.code (v_mt 109).1 (v_mt 109).2.1 (v_mt 109).2.2.1 (v_mt 109).2.2.2.1 ∈ v_Ts := v_in4 (List.mem_of_getElem? (i := 26) rfl) rfl
theorem vk110 : Cond.code (v_mt 110).1 (v_mt 110).2.1 (v_mt 110).2.2.1 (v_mt 110).2.2.2.1 ∈ v_Ts := v_in4 (List.mem_of_getElem? (i := 31) rfl) rfl
theorem vk111 : Cond.code (v_mt 111).1 (v_mt 111).2.1 (v_mt 111).2.2.1 (v_mt 111).2.2.2.1 ∈ v_Ts := v_in4 (List.mem_of_getElem? (i := 36) rfl) rfl
theorem vk112 : Cond.code (v_mt 112).1 (v_mt 112).2.1 (v_mt 112).2.2.1 (v_mt 112).2.2.2.1 ∈ v_Ts := v_in4 (List.mem_of_getElem? (i := 40) rfl) rfl
theorem vk113 : Cond.code (v_mt 113).1 (v_mt 113).2.1 (v_mt 113).2.2.1 (v_mt 113).2.2.2.1 ∈ v_Ts := v_in4 (List.mem_of_getElem? (i := 44) rfl) rfl
theorem vk114 : Cond.code (v_mt 114).1 (v_mt 114).2.1 (v_mt 114).2.2.1 (v_mt 114).2.2.2.1 ∈ v_Ts := v_in4 (List.mem_of_getElem? (i := 48) rfl) rfl
theorem vk115 : Cond.code (v_mt 115).1 (v_mt 115).2.1 (v_mt 115).2.2.1 (v_mt 115).2.2.2.1 ∈ v_Ts := v_in4 (List.mem_of_getElem? (i := 52) rfl) rfl
theorem vk116 : Cond.code (v_mt 116).1 (v_mt 116).2.1 (v_mt 116).2.2.1 (v_mt 116).2.2.2.1 ∈ v_Ts := v_in4 (List.mem_of_getElem? (i := 56) rfl) rfl
theorem vk117 : Cond.code (v_mt 117).1 (v_mt 117).2.1 (v_mt 117).2.2.1 (v_mt 117).2.2.2.1 ∈ v_Ts := v_in4 (List.mem_of_getElem? (i := 60) rfl) rfl
theorem vk118 : Cond.code (v_mt 118).1 (v_mt 118).2.1 (v_mt 118).2.2.1 (v_mt 118).2.2.2.1 ∈ v_Ts := v_in4 (List.mem_of_getElem? (i := 65) rfl) rfl
theorem vk119 : Cond.code (v_mt 119).1 (v_mt 119).2.1 (v_mt 119).2.2.1 (v_mt 119).2.2.2.1 ∈ v_Ts := v_in4 (List.mem_of_getElem? (i := 69) rfl) rfl
theorem vk120 : Cond.code (v_mt 120).1 (v_mt 120).2.1 (v_mt 120).2.2.1 (v_mt 120).2.2.2.1 ∈ v_Ts := v_in4 (List.mem_of_getElem? (i := 73) rfl) rfl
theorem vk121 : Cond.code (v_mt 121).1 (v_mt 121).2.1 (v_mt 121).2.2.1 (v_mt 121).2.2.2.1 ∈ v_Ts := v_in4 (List.mem_of_getElem? (i := 77) rfl) rfl
theorem vk122 : Cond.code (v_mt 122).1 (v_mt 122).2.1 (v_mt 122).2.2.1 (v_mt 122).2.2.2.1 ∈ v_Ts := v_in4 (List.mem_of_getElem? (i := 81) rfl) rfl
theorem vk123 : Cond.code (v_mt 123).1 (v_mt 123).2.1 (v_mt 123).2.2.1 (v_mt 123).2.2.2.1 ∈ v_Ts := v_in4 (List.mem_of_getElem? (i := 85) rfl) rfl
theorem vk124 : Cond.code (v_mt 124).1 (v_mt 124).2.1 (v_mt 124).2.2.1 (v_mt 124).2.2.2.1 ∈ v_Ts := v_in4 (List.mem_of_getElem? (i := 89) rfl) rfl
theorem vk125 : Cond.code (v_mt 125).1 (v_mt 125).2.1 (v_mt 125).2.2.1 (v_mt 125).2.2.2.1 ∈ v_Ts := v_in4 (List.mem_of_getElem? (i := 93) rfl) rfl
theorem vk126 : Cond.code (v_mt 126).1 (v_mt 126).2.1 (v_mt 126).2.2.1 (v_mt 126).2.2.2.1 ∈ v_Ts := v_in4 (List.mem_of_getElem? (i := 98) rfl) rfl
theorem vk127 : Cond.code (v_mt 127).1 (v_mt 127).2.1 (v_mt 127).2.2.1 (v_mt 127).2.2.2.1 ∈ v_Ts := v_in4 (List.mem_of_getElem? (i := 102) rfl) rfl
theorem vk128 : Cond.code (v_mt 128).1 (v_mt 128).2.1 (v_mt 128).2.2.1 (v_mt 128).2.2.2.1 ∈ v_Ts := v_in4 (List.mem_of_getElem? (i := 106) rfl) rfl
theorem vk129 : Cond.code (v_mt 129).1 (v_mt 129).2.1 (v_mt 129).2.2.1 (v_mt 129).2.2.2.1 ∈ v_Ts := v_in4 (List.mem_of_getElem? (i := 110) rfl) rfl
theorem vk130 : Cond.code (v_mt 130).1 (v_mt 130).2.1 (v_mt 130).2.2.1 (v_mt 130).2.2.2.1 ∈ v_Ts := v_in4 (List.mem_of_getElem? (i := 117) rfl) rfl
theorem vk131 : Cond.code (v_mt 131).1 (v_mt 131).2.1 (v_mt 131).2.2.1 (v_mt 131).2.2.2.1 ∈ v_Ts := v_in4 (List.mem_of_getElem? (i := 122) rfl) rfl
theorem vk132 : Cond.code (v_mt 132).1 (v_mt 132).2.1 (v_mt 132).2.2.1 (v_mt 132).2.2.2.1 ∈ v_Ts := v_in4 (List.mem_of_getElem? (i := 126) rfl) rfl
theorem vk133 : Cond.code (v_mt 133).1 (v_mt 133).2.1 (v_mt 133).2.2.1 (v_mt 133).2.2.2.1 ∈ v_Ts := v_in4 (List.mem_of_getElem? (i := 130) rfl) rfl
theorem vk134 : Cond.code (v_mt 134).1 (v_mt 134).2.1 (v_mt 134).2.2.1 (v_mt 134).2.2.2.1 ∈ v_Ts := v_in4 (List.mem_of_getElem? (i := 134) rfl) rfl
theorem vk135 : Cond.code (v_mt 135).1 (v_mt 135).2.1 (v_mt 135).2.2.1 (v_mt 135).2.2.2.1 ∈ v_Ts := v_in4 (List.mem_of_getElem? (i := 138) rfl) rfl
theorem vk136 : Cond.code (v_mt 136).1 (v_mt 136).2.1 (v_mt 136).2.2.1 (v_mt 136).2.2.2.1 ∈ v_Ts := v_in4 (List.mem_of_getElem? (i := 142) rfl) rfl
theorem vk137 : Cond.code (v_mt 137).1 (v_mt 137).2.1 (v_mt 137).2.2.1 (v_mt 137).2.2.2.1 ∈ v_Ts := v_in4 (List.mem_of_getElem? (i := 146) rfl) rfl
theorem vk138 : Cond.code (v_mt 138).1 (v_mt 138).2.1 (v_mt 138).2.2.1 (v_mt 138).2.2.2.1 ∈ v_Ts := v_in4 (List.mem_of_getElem? (i := 150) rfl) rfl
theorem vk139 : Cond.code (v_mt 139).1 (v_mt 139).2.1 (v_mt 139).2.2.1 (v_mt 139).2.2.2.1 ∈ v_Ts := v_in4 (List.mem_of_getElem? (i := 154) rfl) rfl
theorem vk140 : Cond.code (v_mt 140).1 (v_mt 140).2.1 (v_mt 140).2.2.1 (v_mt 140).2.2.2.1 ∈ v_Ts := v_in4 (List.mem_of_getElem? (i := 158) rfl) rfl
theorem vk141 : Cond.code (v_mt 141).1 (v_mt 141).2.1 (v_mt 141).2.2.1 (v_mt 141).2.2.2.1 ∈ v_Ts := v_in4 (List.mem_of_getElem? (i := 163) rfl) rfl
theorem vk142 : Cond.code (v_mt 142).1 (v_mt 142).2.1 (v_mt 142).2.2.1 (v_mt 142).2.2.2.1 ∈ v_Ts := v_in4 (List.mem_of_getElem? (i := 168) rfl) rfl
theorem vk143 : Cond.code (v_mt 143).1 (v_mt 143).2.1 (v_mt 143).2.2.1 (v_mt 143).2.2.2.1 ∈ v_Ts := v_in4 (List.mem_of_getElem? (i := 172) rfl) rfl
theorem vk144 : Cond.code (v_mt 144).1 (v_mt 144).2.1 (v_mt 144).2.2.1 (v_mt 144).2.2.2.1 ∈ v_Ts := v_in4 (List.mem_of_getElem? (i := 176) rfl) rfl
theorem vk145 : Cond.code (v_mt 145).1 (v_mt 145).2.1 (v_mt 145).2.2.1 (v_mt 145).2.2.2.1 ∈ v_Ts := v_in4 (List.mem_of_getElem? (i := 180) rfl) rfl
theorem vk146 : Cond.code (v_mt 146).1 (v_mt 146).2.1 (v_mt 146).2.2.1 (v_mt 146).2.2.2.1 ∈ v_Ts := v_in4 (List.mem_of_getElem? (i := 184) rfl) rfl
theorem vk147 : Cond.code (v_mt 147).1 (v_mt 147).2.1 (v_mt 147).2.2.1 (v_mt 147).2.2.2.1 ∈ v_Ts := v_in4 (List.mem_of_getElem? (i := 187) rfl) rfl
theorem vk148 : Cond.code (v_mt 148).1 (v_mt 148).2.1 (v_mt 148).2.2.1 (v_mt 148).2.2.2.1 ∈ v_Ts := v_in4 (List.mem_of_getElem? (i := 191) rfl) rfl
theorem vk149 : Cond.code (v_mt 149).1 (v_mt 149).2.1 (v_mt 149).2.2.1 (v_mt 149).2.2.2.1 ∈ v_Ts := v_in4 (List.mem_of_getElem? (i := 196) rfl) rfl
theorem vk150 : Cond.code (v_mt 150).1 (v_mt 150).2.1 (v_mt 150).2.2.1 (v_mt 150).2.2.2.1 ∈ v_Ts := v_in5 (List.mem_of_getElem? (i := 64) rfl) rfl
theorem vk151 : Cond.code (v_mt 151).1 (v_mt 151).2.1 (v_mt 151).2.2.1 (v_mt 151).2.2.2.1 ∈ v_Ts := v_in5 (List.mem_of_getElem? (i := 68) rfl) rfl
theorem vk152 : Cond.code (v_mt 152).1 (v_mt 152).2.1 (v_mt 152).2.2.1 (v_mt 152).2.2.2.1 ∈ v_Ts := v_in5 (List.mem_of_getElem? (i := 72) rfl) rfl
theorem vk153 : Cond.code (v_mt 153).1 (v_mt 153).2.1 (v_mt 153).2.2.1 (v_mt 153).2.2.2.1 ∈ v_Ts := v_in5 (List.mem_of_getElem? (i := 76) rfl) rfl
theorem vk154 : Cond.code (v_mt 154).1 (v_mt 154).2.1 (v_mt 154).2.2.1 (v_mt 154).2.2.2.1 ∈ v_Ts := v_in5 (List.mem_of_getElem? (i := 81) rfl) rfl
theorem vk155 : Cond.code (v_mt 155).1 (v_mt 155).2.1 (v_mt 155).2.2.1 (v_mt 155).2.2.2.1 ∈ v_Ts := v_in5 (List.mem_of_getElem? (i := 85) rfl) rfl
theorem vk156 : Cond.code (v_mt 156).1 (v_mt 156).2.1 (v_mt 156).2.2.1 (v_mt 156).2.2.2.1 ∈ v_Ts := v_in5 (List.mem_of_getElem? (i := 89) rfl) rfl
theorem vk157 : Cond.code (v_mt 157).1 (v_mt 157).2.1 (v_mt 157).2.2.1 (v_mt 157).2.2.2.1 ∈ v_Ts := v_in5 (List.mem_of_getElem? (i := 93) rfl) rfl
theorem vk158 : Cond.code (v_mt 158).1 (v_mt 158).2.1 (v_mt 158).2.2.1 (v_mt 158).2.2.2.1 ∈ v_Ts := v_in5 (List.mem_of_getElem? (i := 97) rfl) rfl
theorem vk159 : Cond.code (v_mt 159).1 (v_mt 159).2.1 (v_mt 159).2.2.1 (v_mt 159).2.2.2.1 ∈ v_Ts := v_in5 (List.mem_of_getElem? (i := 101) rfl) rfl
theorem vk160 : Cond.code (v_mt 160).1 (v_mt 160).2.1 (v_mt 160).2.2.1 (v_mt 160).2.2.2.1 ∈ v_Ts := v_in5 (List.mem_of_getElem? (i := 105) rfl) rfl
theorem vk161 : Cond.code (v_mt 161).1 (v_mt 161).2.1 (v_mt 161).2.2.1 (v_mt 161).2.2.2.1 ∈ v_Ts := v_in5 (List.mem_of_getElem? (i := 109) rfl) rfl
theorem vk162 : Cond.code (v_mt 162).1 (v_mt 162).2.1 (v_mt 162).2.2.1 (v_mt 162).2.2.2.1 ∈ v_Ts := v_in5 (List.mem_of_getElem? (i := 113) rfl) rfl
theorem vk163 : Cond.code (v_mt 163).1 (v_mt 163).2.1 (v_mt 163).2.2.1 (v_mt 163).2.2.2.1 ∈ v_Ts := v_in5 (List.mem_of_getElem? (i := 117) rfl) rfl
theorem vk164 : Cond.code (v_mt 164).1 (v_mt 164).2.1 (v_mt 164).2.2.1 (v_mt 164).2.2.2.1 ∈ v_Ts := v_in5 (List.mem_of_getElem? (i := 120) rfl) rfl
theorem vk165 : Cond.code (v_mt 165).1 (v_mt 165).2.1 (v_mt 165).2.2.1 (v_mt 165).2.2.2.1 ∈ v_Ts := v_in5 (List.mem_of_getElem? (i := 123) rfl) rfl
theorem vk166 : Cond.code (v_mt 166).1 (v_mt 166).2.1 (v_mt 166).2.2.1 (v_mt 166).2.2.2.1 ∈ v_Ts := v_in5 (List.mem_of_getElem? (i := 127) rfl) rfl
theorem vk167 : Cond.code (v_mt 167).1 (v_mt 167).2.1 (v_mt 167).2.2.1 (v_mt 167).2.2.2.1 ∈ v_Ts := v_in5 (List.mem_of_getElem? (i := 130) rfl) rfl
theorem vk168 : Cond.code (v_mt 168).1 (v_mt 168).2.1 (v_mt 168).2.2.1 (v_mt 168).2.2.2.1 ∈ v_Ts := v_in5 (List.mem_of_getElem? (i := 135) rfl) rfl
theorem vk169 : Cond.code (v_mt 169).1 (v_mt 169).2.1 (v_mt 169).2.2.1 (v_mt 169).2.2.2.1 ∈ v_Ts := v_in5 (List.mem_of_getElem? (i := 139) rfl) rfl
theorem vk170 : Cond.code (v_mt 170).1 (v_mt 170).2.1 (v_mt 170).2.2.1 (v_mt 170).2.2.2.1 ∈ v_Ts := v_in5 (List.mem_of_getElem? (i := 143) rfl) rfl
theorem vk171 : Cond.code (v_mt 171).1 (v_mt 171).2.1 (v_mt 171).2.2.1 (v_mt 171).2.2.2.1 ∈ v_Ts := v_in5 (List.mem_of_getElem? (i := 147) rfl) rfl
theorem vk172 : Cond.code (v_mt 172).1 (v_mt 172).2.1 (v_mt 172).2.2.1 (v_mt 172).2.2.2.1 ∈ v_Ts := v_in5 (List.mem_of_getElem? (i := 151) rfl) rfl
theorem vk173 : Cond.code (v_mt 173).1 (v_mt 173).2.1 (v_mt 173).2.2.1 (v_mt 173).2.2.2.1 ∈ v_Ts := v_in5 (List.mem_of_getElem? (i := 155) rfl) rfl
theorem vk174 : Cond.code (v_mt 174).1 (v_mt 174).2.1 (v_mt 174).2.2.1 (v_mt 174).2.2.2.1 ∈ v_Ts := v_in5 (List.mem_of_getElem? (i := 159) rfl) rfl
theorem vk175 : Cond.code (v_mt 175).1 (v_mt 175).2.1 (v_mt 175).2.2.1 (v_mt 175).2.2.2.1 ∈ v_Ts := v_in5 (List.mem_of_getElem? (i := 163) rfl) rfl
theorem vk176 : Cond.code (v_mt 176).1 (v_mt 176).2.1 (v_mt 176).2.2.1 (v_mt 176).2.2.2.1 ∈ v_Ts := v_in5 (List.mem_of_getElem? (i := 167) rfl) rfl
theorem vk177 : Cond.code (v_mt 177).1 (v_mt 177).2.1 (v_mt 177).2.2.1 (v_mt 177).2.2.2.1 ∈ v_Ts := v_in5 (List.mem_of_getElem? (i := 173) rfl) rfl
theorem vk178 : Cond.code (v_mt 178).1 (v_mt 178).2.1 (v_mt 178).2.2.1 (v_mt 178).2.2.2.1 ∈ v_Ts := v_in5 (List.mem_of_getElem? (i := 177) rfl) rfl
theorem vk179 : Cond.code (v_mt 179).1 (v_mt 179).2.1 (v_mt 179).2.2.1 (v_mt 179).2.2.2.1 ∈ v_Ts := v_in5 (List.mem_of_getElem? (i := 181) rfl) rfl
theorem vk180 : Cond.code (v_mt 180).1 (v_mt 180).2.1 (v_mt 180).2.2.1 (v_mt 180).2.2.2.1 ∈ v_Ts := v_in5 (List.mem_of_getElem? (i := 185) rfl) rfl
theorem vk181 : Cond.code (v_mt 181).1 (v_mt 181).2.1 (v_mt 181).2.2.1 (v_mt 181).2.2.2.1 ∈ v_Ts := v_in5 (List.mem_of_getElem? (i := 189) rfl) rfl
theorem vk182 : Cond.code (v_mt 182).1 (v_mt 182).2.1 (v_mt 182).2.2.1 (v_mt 182).2.2.2.1 ∈ v_Ts := v_in5 (List.mem_of_getElem? (i := 193) rfl) rfl
theorem vk183 : Cond.code (v_mt 183).1 (v_mt 183).2.1 (v_mt 183).2.2.1 (v_mt 183).2.2.2.1 ∈ v_Ts := v_in5 (List.mem_of_getElem? (i := 198) rfl) rfl
theorem vk184 : Cond.code (v_mt 184).1 (v_mt 184).2.1 (v_mt 184).2.2.1 (v_mt 184).2.2.2.1 ∈ v_Ts := v_in5 (List.mem_of_getElem? (i := 202) rfl) rfl
theorem vk185 : Cond.code (v_mt 185).1 (v_mt 185).2.1 (v_mt 185).2.2.1 (v_mt 185).2.2.2.1 ∈ v_Ts := v_in5 (List.mem_of_getElem? (i := 206) rfl) rfl
theorem vk186 : Cond.code (v_mt 186).1 (v_mt 186).2.1 (v_mt 186).2.2.1 (v_mt 186).2.2.2.1 ∈ v_Ts := v_in5 (List.mem_of_getElem? (i := 210) rfl) rfl
theorem vk187 : Cond.code (v_mt 187).1 (v_mt 187).2.1 (v_mt 187).2.2.1 (v_mt 187).2.2.2.1 ∈ v_Ts := v_in5 (List.mem_of_getElem? (i := 214) rfl) rfl
theorem vk188 : Cond.code (v_mt 188).1 (v_mt 188).2.1 (v_mt 188).2.2.1 (v_mt 188).2.2.2.1 ∈ v_Ts := v_in5 (List.mem_of_getElem? (i := 219) rfl) rfl
theorem vk189 : Cond.code (v_mt 189).1 (v_mt 189).2.1 (v_mt 189).2.2.1 (v_mt 189).2.2.2.1 ∈ v_Ts := v_in5 (List.mem_of_getElem? (i := 223) rfl) rfl
theorem vk190 : Cond.code (v_mt 190).1 (v_mt 190).2.1 (v_mt 190).2.2.1 (v_mt 190).2.2.2.1 ∈ v_Ts := v_in5 (List.mem_of_getElem? (i := 227) rfl) rfl
theorem vk191 : Cond.code (v_mt 191).1 (v_mt 191).2.1 (v_mt 191).2.2.1 (v_mt 191).2.2.2.1 ∈ v_Ts := v_in5 (List.mem_of_getElem? (i := 233) rfl) rfl
theorem vk192 : Cond.code (v_mt 192).1 (v_mt 192).2.1 (v_mt 192).2.2.1 (v_mt 192).2.2.2.1 ∈ v_Ts := v_in5 (List.mem_of_getElem? (i := 238) rfl) rfl
theorem vk193 : Cond.code (v_mt 193).1 (v_mt 193).2.1 (v_mt 193).2.2.1 (v_mt 193).2.2.2.1 ∈ v_Ts := v_in6 (List.mem_of_getElem? (i := 2) rfl) rfl
theorem vk194 : Cond.code (v_mt 194).1 (v_mt 194).2.1 (v_mt 194).2.2.1 (v_mt 194).2.2.2.1 ∈ v_Ts := v_in6 (List.mem_of_getElem? (i := 6) rfl) rfl
theorem vk195 : Cond.code (v_mt 195).1 (v_mt 195).2.1 (v_mt 195).2.2.1 (v_mt 195).2.2.2.1 ∈ v_Ts := v_in6 (List.mem_of_getElem? (i := 10) rfl) rfl
theorem vk196 : Cond.code (v_mt 196).1 (v_mt 196).2.1 (v_mt 196).2.2.1 (v_mt 196).2.2.2.1 ∈ v_Ts := v_in6 (List.mem_of_getElem? (i := 14) rfl) rfl
theorem vk197 : Cond.code (v_mt 197).1 (v_mt 197).2.1 (v_mt 197).2.2.1 (v_mt 197).2.2.2.1 ∈ v_Ts := v_in6 (List.mem_of_getElem? (i := 19) rfl) rfl
theorem vk198 : Cond.code (v_mt 198).1 (v_mt 198).2.1 (v_mt 198).2.2.1 (v_mt 198).2.2.2.1 ∈ v_Ts := v_in6 (List.mem_of_getElem? (i := 24) rfl) rfl
theorem vk199 : Cond.code (v_mt 199).1 (v_mt 199).2.1 (v_mt 199).2.2.1 (v_mt 199).2.2.2.1 ∈ v_Ts := v_in6 (List.mem_of_getElem? (i := 28) rfl) rfl
theorem vk200 : Cond.code (v_mt 200).1 (v_mt 200).2.1 (v_mt 200).2.2.1 (v_mt 200).2.2.2.1 ∈ v_Ts := v_in6 (List.mem_of_getElem? (i := 32) rfl) rfl
theorem vk201 : Cond.code (v_mt 201).1 (v_mt 201).2.1 (v_mt 201).2.2.1 (v_mt 201).2.2.2.1 ∈ v_Ts := v_in6 (List.mem_of_getElem? (i := 36) rfl) rfl
theorem vk202 : Cond.code (v_mt 202).1 (v_mt 202).2.1 (v_mt 202).2.2.1 (v_mt 202).2.2.2.1 ∈ v_Ts := v_in6 (List.mem_of_getElem? (i := 42) rfl) rfl
theorem vk203 : Cond.code (v_mt 203).1 (v_mt 203).2.1 (v_mt 203).2.2.1 (v_mt 203).2.2.2.1 ∈ v_Ts := v_in6 (List.mem_of_getElem? (i := 46) rfl) rfl
theorem vk204 : Cond.code (v_mt 204).1 (v_mt 204).2.1 (v_mt 204).2.2.1 (v_mt 204).2.2.2.1 ∈ v_Ts := v_in6 (List.mem_of_getElem? (i := 50) rfl) rfl
theorem vk205 : Cond.code (v_mt 205).1 (v_mt 205).2.1 (v_mt 205).2.2.1 (v_mt 205).2.2.2.1 ∈ v_Ts := v_in6 (List.mem_of_getElem? (i := 54) rfl) rfl
theorem vk206 : Cond.code (v_mt 206).1 (v_mt 206).2.1 (v_mt 206).2.2.1 (v_mt 206).2.2.2.1 ∈ v_Ts := v_in6 (List.mem_of_getElem? (i := 58) rfl) rfl
theorem vk207 : Cond.code (v_mt 207).1 (v_mt 207).2.1 (v_mt 207).2.2.1 (v_mt 207).2.2.2.1 ∈ v_Ts := v_in6 (List.mem_of_getElem? (i := 62) rfl) rfl
theorem vk208 : Cond.code (v_mt 208).1 (v_mt 208).2.1 (v_mt 208).2.2.1 (v_mt 208).2.2.2.1 ∈ v_Ts := v_in6 (List.mem_of_getElem? (i := 66) rfl) rfl
theorem vk209 : Cond.code (v_mt 209).1 (v_mt 209).2.1 (v_mt 209).2.2.1 (v_mt 209).2.2.2.1 ∈ v_Ts := v_in6 (List.mem_of_getElem? (i := 70) rfl) rfl
theorem vk210 : Cond.code (v_mt 210).1 (v_mt 210).2.1 (v_mt 210).2.2.1 (v_mt 210).2.2.2.1 ∈ v_Ts := v_in6 (List.mem_of_getElem? (i := 74) rfl) rfl
theorem vk211 : Cond.code (v_mt 211).1 (v_mt 211).2.1 (v_mt 211).2.2.1 (v_mt 211).2.2.2.1 ∈ v_Ts := v_in6 (List.mem_of_getElem? (i := 78) rfl) rfl
theorem vk212 : Cond.code (v_mt 212).1 (v_mt 212).2.1 (v_mt 212).2.2.1 (v_mt 212).2.2.2.1 ∈ v_Ts := v_in6 (List.mem_of_getElem? (i := 82) rfl) rfl
theorem vk213 : Cond.code (v_mt 213).1 (v_mt 213).2.1 (v_mt 213).2.2.1 (v_mt 213).2.2.2.1 ∈ v_Ts := v_in6 (List.mem_of_getElem? (i := 86) rfl) rfl
theorem vk214 : Cond.code (v_mt 214).1 (v_mt 214).2.1 (v_mt 214).2.2.1 (v_mt 214).2.2.2.1 ∈ v_Ts := v_in6 (List.mem_of_getElem? (i := 90) rfl) rfl
theorem vk215 : Cond.code (v_mt 215).1 (v_mt 215).2.1 (v_mt 215).2.2.1 (v_mt 215).2.2.2.1 ∈ v_Ts := v_in6 (List.mem_of_getElem? (i := 94) rfl) rfl
theorem vk216 : Cond.code (v_mt 216).1 (v_mt 216).2.1 (v_mt 216).2.2.1 (v_mt 216).2.2.2.1 ∈ v_Ts := v_in6 (List.mem_of_getElem? (i := 97) rfl) rfl
theorem vk217 : Cond.code (v_mt 217).1 (v_mt 217).2.1 (v_mt 217).2.2.1 (v_mt 217).2.2.2.1 ∈ v_Ts := v_in6 (List.mem_of_getElem? (i := 101) rfl) rfl
theorem vk218 : Cond.code (v_mt 218).1 (v_mt 218).2.1 (v_mt 218).2.2.1 (v_mt 218).2.2.2.1 ∈ v_Ts := v_in6 (List.mem_of_getElem? (i := 105) rfl) rfl
theorem vk219 : Cond.code (v_mt 219).1 (v_mt 219).2.1 (v_mt 219).2.2.1 (v_mt 219).2.2.2.1 ∈ v_Ts := v_in6 (List.mem_of_getElem? (i := 109) rfl) rfl
theorem vk220 : Cond.code (v_mt 220).1 (v_mt 220).2.1 (v_mt 220).2.2.1 (v_mt 220).2.2.2.1 ∈ v_Ts := v_in6 (List.mem_of_getElem? (i := 113) rfl) rfl
theorem vk221 : Cond.code (v_mt 221).1 (v_mt 221).2.1 (v_mt 221).2.2.1 (v_mt 221).2.2.2.1 ∈ v_Ts := v_in6 (List.mem_of_getElem? (i := 117) rfl) rfl
theorem vk222 : Cond.code (v_mt 222).1 (v_mt 222).2.1 (v_mt 222).2.2.1 (v_mt 222).2.2.2.1 ∈ v_Ts := v_in6 (List.mem_of_getElem? (i := 121) rfl) rfl
theorem vk223 : Cond.code (v_mt 223).1 (v_mt 223).2.1 (v_mt 223).2.2.1 (v_mt 223).2.2.2.1 ∈ v_Ts := v_in6 (List.mem_of_getElem? (i := 125) rfl) rfl
theorem vk224 : Cond.code (v_mt 224).1 (v_mt 224).2.1 (v_mt 224).2.2.1 (v_mt 224).2.2.2.1 ∈ v_Ts := v_in6 (List.mem_of_getElem? (i := 129) rfl) rfl
theorem vk225 : Cond.code (v_mt 225).1 (v_mt 225).2.1 (v_mt 225).2.2.1 (v_mt 225).2.2.2.1 ∈ v_Ts := v_in6 (List.mem_of_getElem? (i := 133) rfl) rfl
theorem vk226 : Cond.code (v_mt 226).1 (v_mt 226).2.1 (v_mt 226).2.2.1 (v_mt 226).2.2.2.1 ∈ v_Ts := v_in6 (List.mem_of_getElem? (i := 137) rfl) rfl
theorem vk227 : Cond.code (v_mt 227).1 (v_mt 227).2.1 (v_mt 227).2.2.1 (v_mt 227).2.2.2.1 ∈ v_Ts := v_in6 (List.mem_of_getElem? (i := 141) rfl) rfl
theorem vk228 : Cond.code (v_mt 228).1 (v_mt 228).2.1 (v_mt 228).2.2.1 (v_mt 228).2.2.2.1 ∈ v_Ts := v_in6 (List.mem_of_getElem? (i := 145) rfl) rfl
theorem vk229 : Cond.code (v_mt 229).1 (v_mt 229).2.1 (v_mt 229).2.2.1 (v_mt 229).2.2.2.1 ∈ v_Ts := v_in6 (List.mem_of_getElem? (i := 150) rfl) rfl
theorem vk230 : Cond.code (v_mt 230).1 (v_mt 230).2.1 (v_mt 230).2.2.1 (v_mt 230).2.2.2.1 ∈ v_Ts := v_in6 (List.mem_of_getElem? (i := 154) rfl) rfl
theorem v_code_in : ∀ k, k < 231 → Cond.code (v_mt k).1 (v_mt k).2.1 (v_mt k).2.2.1 (v_mt k).2.2.2.1 ∈ v_Ts := by
  intro k hk
  match k, hk with
  | 0, _ => exact vk0
  | 1, _ => exact vk1
  | 2, _ => exact vk2
  | 3, _ => exact vk3
  | 4, _ => exact vk4
  | 5, _ => exact vk5
  | 6, _ => exact vk6
  | 7, _ => exact vk7
  | 8, _ => exact vk8
  | 9, _ => exact vk9
  | 10, _ => exact vk10
  | 11, _ => exact vk11
  | 12, _ => exact vk12
  | 13, _ => exact vk13
  | 14, _ => exact vk14
  | 15, _ => exact vk15
  | 16, _ => exact vk16
  | 17, _ => exact vk17
  | 18, _ => exact vk18
  | 19, _ => exact vk19
  | 20, _ => exact vk20
  | 21, _ => exact vk21
  | 22, _ => exact vk22
  | 23, _ => exact vk23
  | 24, _ => exact vk24
  | 25, _ => exact vk25
  | 26, _ => exact vk26
  | 27, _ => exact vk27
  | 28, _ => exact vk28
  | 29, _ => exact vk29
  | 30, _ => exact vk30
  | 31, _ => exact vk31
  | 32, _ => exact vk32
  | 33, _ => exact vk33
  | 34, _ => exact vk34
  | 35, _ => exact vk35
  | 36, _ => exact vk36
  | 37, _ => exact vk37
  | 38, _ => exact vk38
  | 39, _ => exact vk39
  | 40, _ => exact vk40
  | 41, _ => exact vk41
  | 42, _ => exact vk42
  | 43, _ => exact vk43
  | 44, _ => exact vk44
  | 45, _ => exact vk45
  | 46, _ => exact vk46
  | 47, _ => exact vk47
  | 48, _ => exact vk48
  | 49, _ => exact vk49
  | 50, _ => exact vk50
  | 51, _ => exact vk51
  | 52, _ => exact vk52
  | 53, _ => exact vk53
  | 54, _ => exact vk54
  | 55, _ => exact vk55
  | 56, _ => exact vk56
  | 57, _ => exact vk57
  | 58, _ => exact vk58
  | 59, _ => exact vk59
  | 60, _ => exact vk60
  | 61, _ => exact vk61
  | 62, _ => exact vk62
  | 63, _ => exact vk63
  | 64, _ => exact vk64
  | 65, _ => exact vk65
  | 66, _ => exact vk66
  | 67, _ => exact vk67
  | 68, _ => exact vk68
  | 69, _ => exact vk69
  | 70, _ => exact vk70
  | 71, _ => exact vk71
  | 72, _ => exact vk72
  | 73, _ => exact vk73
  | 74, _ => exact vk74
  | 75, _ => exact vk75
  | 76, _ => exact vk76
  | 77, _ => exact vk77
  | 78, _ => exact vk78
  | 79, _ => exact vk79
  | 80, _ => exact vk80
  | 81, _ => exact vk81
  | 82, _ => exact vk82
  | 83, _ => exact vk83
  | 84, _ => exact vk84
  | 85, _ => exact vk85
  | 86, _ => exact vk86
  | 87, _ => exact vk87
  | 88, _ => exact vk88
  | 89, _ => exact vk89
  | 90, _ => exact vk90
  | 91, _ => exact vk91
  | 92, _ => exact vk92
  | 93, _ => exact vk93
  | 94, _ => exact vk94
  | 95, _ => exact vk95
  | 96, _ => exact vk96
  | 97, _ => exact vk97
  | 98, _ => exact vk98
  | 99, _ => exact vk99
  | 100, _ => exact vk100
  | 101, _ => exact vk101
  | 102, _ => exact vk102
  | 103, _ => exact vk103
  | 104, _ => exact vk104
  | 105, _ => exact vk105
  | 106, _ => exact vk106
  | 107, _ => exact vk107
  | 108, _ => exact vk108
  | 109, _ => exact vk109
  | 110, _ => exact vk110
  | 111, _ => exact vk111
  | 112, _ => exact vk112
  | 113, _ => exact vk113
  | 114, _ => exact vk114
  | 115, _ => exact vk115
  | 116, _ => exact vk116
  | 117, _ => exact vk117
  | 118, _ => exact vk118
  | 119, _ => exact vk119
  | 120, _ => exact vk120
  | 121, _ => exact vk121
  | 122, _ => exact vk122
  | 123, _ => exact vk123
  | 124, _ => exact vk124
  | 125, _ => exact vk125
  | 126, _ => exact vk126
  | 127, _ => exact vk127
  | 128, _ => exact vk128
  | 129, _ => exact vk129
  | 130, _ => exact vk130
  | 131, _ => exact vk131
  | 132, _ => exact vk132
  | 133, _ => exact vk133
  | 134, _ => exact vk134
  | 135, _ => exact vk135
  | 136, _ => exact vk136
  | 137, _ => exact vk137
  | 138, _ => exact vk138
  | 139, _ => exact vk139
  | 140, _ => exact vk140
  | 141, _ => exact vk141
  | 142, _ => exact vk142
  | 143, _ => exact vk143
  | 144, _ => exact vk144
  | 145, _ => exact vk145
  | 146, _ => exact vk146
  | 147, _ => exact vk147
  | 148, _ => exact vk148
  | 149, _ => exact vk149
  | 150, _ => exact vk150
  | 151, _ => exact vk151
  | 152, _ => exact vk152
  | 153, _ => exact vk153
  | 154, _ => exact vk154
  | 155, _ => exact vk155
  | 156, _ => exact vk156
  | 157, _ => exact vk157
  | 158, _ => exact vk158
  | 159, _ => exact vk159
  | 160, _ => exact vk160
  | 161, _ => exact vk161
  | 162, _ => exact vk162
  | 163, _ => exact vk163
  | 164, _ => exact vk164
  | 165, _ => exact vk165
  | 166, _ => exact vk166
  | 167, _ => exact vk167
  | 168, _ => exact vk168
  | 169, _ => exact vk169
  | 170, _ => exact vk170
  | 171, _ => exact vk171
  | 172, _ => exact vk172
  | 173, _ => exact vk173
  | 174, _ => exact vk174
  | 175, _ => exact vk175
  | 176, _ => exact vk176
  | 177, _ => exact vk177
  | 178, _ => exact vk178
  | 179, _ => exact vk179
  | 180, _ => exact vk180
  | 181, _ => exact vk181
  | 182, _ => exact vk182
  | 183, _ => exact vk183
  | 184, _ => exact vk184
  | 185, _ => exact vk185
  | 186, _ => exact vk186
  | 187, _ => exact vk187
  | 188, _ => exact vk188
  | 189, _ => exact vk189
  | 190, _ => exact vk190
  | 191, _ => exact vk191
  | 192, _ => exact vk192
  | 193, _ => exact vk193
  | 194, _ => exact vk194
  | 195, _ => exact vk195
  | 196, _ => exact vk196
  | 197, _ => exact vk197
  | 198, _ => exact vk198
  | 199, _ => exact vk199
  | 200, _ => exact vk200
  | 201, _ => exact vk201
  | 202, _ => exact vk202
  | 203, _ => exact vk203
  | 204, _ => exact vk204
  | 205, _ => exact vk205
  | 206, _ => exact vk206
  | 207, _ => exact vk207
  | 208, _ => exact vk208
  | 209, _ => exact vk209
  | 210, _ => exact vk210
  | 211, _ => exact vk211
  | 212, _ => exact vk212
  | 213, _ => exact vk213
  | 214, _ => exact vk214
  | 215, _ => exact vk215
  | 216, _ => exact vk216
  | 217, _ => exact vk217
  | 218, _ => exact vk218
  | 219, _ => exact vk219
  | 220, _ => exact vk220
  | 221, _ => exact vk221
  | 222, _ => exact vk222
  | 223, _ => exact vk223
  | 224, _ => exact vk224
  | 225, _ => exact vk225
  | 226, _ => exact vk226
  | 227, _ => exact vk227
  | 228, _ => exact vk228
  | 229, _ => exact vk229
  | 230, _ => exact vk230
  | n + 231, h => omega
