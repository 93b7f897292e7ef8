/-! the words of the tables, by their places in lw_tbl -/
def wsAt (l : List (Jvm.Cond × Nat)) : Bool := l.all (fun e => decide (lw_tbl[e.2]? = some e.1))
theorem wsAt_mem {l : List (Jvm.Cond × Nat)} (h : wsAt l = true) {w : Jvm.Cond} {i : Nat} (hm : (w, i) ∈ l) : w ∈ lw_tbl := by
  have h1 := List.all_eq_true.mp h _ hm
  exact List.mem_of_getElem? (of_decide_eq_true h1)
def isNest : Jvm.Cond → Bool
  | .methodLinkNest .. => true
  | _ => false
def ALLG : List Jvm.Cond := lw_tbl.filter goodWord
def NEST : List Jvm.Cond := lw_tbl.filter isNest
theorem mem_allg {w : Jvm.Cond} (h : w ∈ lw_tbl) (hn : goodWord w = true) : w ∈ ALLG := List.mem_filter.mpr ⟨h, hn⟩
theorem mem_nest {w : Jvm.Cond} (h : w ∈ lw_tbl) (hn : isNest w = true) : w ∈ NEST := List.mem_filter.mpr ⟨h, hn⟩
theorem allg_sub {w : Jvm.Cond} (h : w ∈ ALLG) : w ∈ lw_tbl := (List.mem_filter.mp h).1
theorem nest_sub {w : Jvm.Cond} (h : w ∈ NEST) : w ∈ lw_tbl ∧ isNest w = true := List.mem_filter.mp h
theorem allg_in : GoodIn ALLG ALLG := fun w hw => ⟨hw, good_of_word (List.mem_filter.mp hw).2⟩
def wCd (k : Nat) : Jvm.Cond := .code (mN k) (mB k) (mL k) (mR k)
theorem wcd_0 : wsAt [(wCd 0, 228), (wCd 1, 550), (wCd 2, 740), (wCd 3, 663), (wCd 4, 650), (wCd 5, 654), (wCd 6, 555), (wCd 7, 559), (wCd 8, 563), (wCd 9, 574), (wCd 10, 622), (wCd 11, 626), (wCd 12, 629), (wCd 13, 671), (wCd 14, 685), (wCd 15, 289), (wCd 16, 711), (wCd 17, 723), (wCd 18, 76), (wCd 19, 447), (wCd 20, 443), (wCd 21, 408), (wCd 22, 435), (wCd 23, 439), (wCd 24, 454)] = true := by decide +kernel
theorem wcd_1 : wsAt [(wCd 25, 463), (wCd 26, 471), (wCd 27, 479), (wCd 28, 196), (wCd 29, 370), (wCd 30, 394), (wCd 31, 401), (wCd 32, 430), (wCd 33, 458), (wCd 34, 386), (wCd 35, 390), (wCd 36, 397), (wCd 37, 404), (wCd 38, 112), (wCd 39, 521), (wCd 40, 420), (wCd 41, 475), (wCd 42, 525), (wCd 43, 592), (wCd 44, 598), (wCd 45, 210), (wCd 46, 693), (wCd 47, 789), (wCd 48, 281), (wCd 49, 705)] = true := by decide +kernel
theorem wcd_2 : wsAt [(wCd 50, 732), (wCd 51, 736), (wCd 52, 745), (wCd 53, 753), (wCd 54, 761), (wCd 55, 768), (wCd 56, 772), (wCd 57, 785), (wCd 58, 808), (wCd 59, 82), (wCd 60, 501), (wCd 61, 415), (wCd 62, 467), (wCd 63, 505), (wCd 64, 513), (wCd 65, 633), (wCd 66, 816), (wCd 67, 820), (wCd 68, 266), (wCd 69, 584), (wCd 70, 588), (wCd 71, 606), (wCd 72, 718), (wCd 73, 68), (wCd 74, 363)] = true := by decide +kernel
theorem wcd_3 : wsAt [(wCd 75, 378), (wCd 76, 483), (wCd 77, 491), (wCd 78, 497), (wCd 79, 517), (wCd 80, 530), (wCd 81, 538), (wCd 82, 542), (wCd 83, 546), (wCd 84, 580), (wCd 85, 602), (wCd 86, 610), (wCd 87, 618), (wCd 88, 637), (wCd 89, 642), (wCd 90, 646), (wCd 91, 658), (wCd 92, 667), (wCd 93, 677), (wCd 94, 681), (wCd 95, 689), (wCd 96, 697), (wCd 97, 701), (wCd 98, 728), (wCd 99, 749)] = true := by decide +kernel
theorem wcd_4 : wsAt [(wCd 100, 757), (wCd 101, 776), (wCd 102, 799), (wCd 103, 804), (wCd 104, 812), (wCd 105, 827), (wCd 106, 836), (wCd 107, 840), (wCd 108, 844), (wCd 109, 374), (wCd 110, 614), (wCd 111, 780), (wCd 112, 382), (wCd 113, 426), (wCd 114, 366), (wCd 115, 487), (wCd 116, 450), (wCd 117, 832), (wCd 118, 792), (wCd 119, 795), (wCd 120, 849), (wCd 121, 985), (wCd 122, 1186), (wCd 123, 1247), (wCd 124, 1011)] = true := by decide +kernel
theorem wcd_5 : wsAt [(wCd 125, 981), (wCd 126, 1035), (wCd 127, 1071), (wCd 128, 1087), (wCd 129, 1118), (wCd 130, 978), (wCd 131, 997), (wCd 132, 1008), (wCd 133, 1004), (wCd 134, 1000), (wCd 135, 993), (wCd 136, 1031), (wCd 137, 1039), (wCd 138, 1043), (wCd 139, 1047), (wCd 140, 1027), (wCd 141, 989), (wCd 142, 1019), (wCd 143, 1023), (wCd 144, 1015), (wCd 145, 1051), (wCd 146, 1055), (wCd 147, 1075), (wCd 148, 1079), (wCd 149, 1115)] = true := by decide +kernel
theorem wcd_6 : wsAt [(wCd 150, 1111), (wCd 151, 1059), (wCd 152, 1063), (wCd 153, 1067), (wCd 154, 1091), (wCd 155, 1083), (wCd 156, 1095), (wCd 157, 1099), (wCd 158, 1103), (wCd 159, 1107), (wCd 160, 1130), (wCd 161, 1126), (wCd 162, 1122), (wCd 163, 1138), (wCd 164, 1134), (wCd 165, 1150), (wCd 166, 1146), (wCd 167, 1142), (wCd 168, 1158), (wCd 169, 1154), (wCd 170, 1170), (wCd 171, 1166), (wCd 172, 1162), (wCd 173, 1174), (wCd 174, 1178)] = true := by decide +kernel
theorem wcd_7 : wsAt [(wCd 175, 1182), (wCd 176, 1191), (wCd 177, 1195), (wCd 178, 1199), (wCd 179, 1203), (wCd 180, 1207), (wCd 181, 1215), (wCd 182, 1219), (wCd 183, 1211), (wCd 184, 1227), (wCd 185, 1223), (wCd 186, 1235), (wCd 187, 1231), (wCd 188, 1239), (wCd 189, 1256), (wCd 190, 1252), (wCd 191, 1262), (wCd 192, 1259), (wCd 193, 1243), (wCd 194, 1266), (wCd 195, 1270), (wCd 196, 1274), (wCd 197, 1278), (wCd 198, 1285), (wCd 199, 1289)] = true := by decide +kernel
theorem wcd_8 : wsAt [(wCd 200, 138)] = true := by decide +kernel
theorem wcd_ok : ∀ k, k < 201 → wCd k ∈ ALLG := by
  intro k hk
  rcases Nat.lt_or_ge k 25 with h | h0
  · obtain ⟨i, hi, rfl⟩ : ∃ i, i < 25 ∧ k = 0 + i := ⟨k - 0, by omega, by omega⟩
    have hm : ∀ i, i < 25 → ∃ p, (wCd (0 + i), p) ∈ [(wCd 0, 228), (wCd 1, 550), (wCd 2, 740), (wCd 3, 663), (wCd 4, 650), (wCd 5, 654), (wCd 6, 555), (wCd 7, 559), (wCd 8, 563), (wCd 9, 574), (wCd 10, 622), (wCd 11, 626), (wCd 12, 629), (wCd 13, 671), (wCd 14, 685), (wCd 15, 289), (wCd 16, 711), (wCd 17, 723), (wCd 18, 76), (wCd 19, 447), (wCd 20, 443), (wCd 21, 408), (wCd 22, 435), (wCd 23, 439), (wCd 24, 454)] := by
      intro i hi
      match i, hi with
      | 0, _ => exact ⟨228, List.mem_of_getElem? (i := 0) rfl⟩
      | 1, _ => exact ⟨550, List.mem_of_getElem? (i := 1) rfl⟩
      | 2, _ => exact ⟨740, List.mem_of_getElem? (i := 2) rfl⟩
      | 3, _ => exact ⟨663, List.mem_of_getElem? (i := 3) rfl⟩
      | 4, _ => exact ⟨650, List.mem_of_getElem? (i := 4) rfl⟩
      | 5, _ => exact ⟨654, List.mem_of_getElem? (i := 5) rfl⟩
      | 6, _ => exact ⟨555, List.mem_of_getElem? (i := 6) rfl⟩
      | 7, _ => exact ⟨559, List.mem_of_getElem? (i := 7) rfl⟩
      | 8, _ => exact ⟨563, List.mem_of_getElem? (i := 8) rfl⟩
      | 9, _ => exact ⟨574, List.mem_of_getElem? (i := 9) rfl⟩
      | 10, _ => exact ⟨622, List.mem_of_getElem? (i := 10) rfl⟩
      | 11, _ => exact ⟨626, List.mem_of_getElem? (i := 11) rfl⟩
      | 12, _ => exact ⟨629, List.mem_of_getElem? (i := 12) rfl⟩
      | 13, _ => exact ⟨671, List.mem_of_getElem? (i := 13) rfl⟩
      | 14, _ => exact ⟨685, List.mem_of_getElem? (i := 14) rfl⟩
      | 15, _ => exact ⟨289, List.mem_of_getElem? (i := 15) rfl⟩
      | 16, _ => exact ⟨711, List.mem_of_getElem? (i := 16) rfl⟩
      | 17, _ => exact ⟨723, List.mem_of_getElem? (i := 17) rfl⟩
      | 18, _ => exact ⟨76, List.mem_of_getElem? (i := 18) rfl⟩
      | 19, _ => exact ⟨447, List.mem_of_getElem? (i := 19) rfl⟩
      | 20, _ => exact ⟨443, List.mem_of_getElem? (i := 20) rfl⟩
      | 21, _ => exact ⟨408, List.mem_of_getElem? (i := 21) rfl⟩
      | 22, _ => exact ⟨435, List.mem_of_getElem? (i := 22) rfl⟩
      | 23, _ => exact ⟨439, List.mem_of_getElem? (i := 23) rfl⟩
      | 24, _ => exact ⟨454, List.mem_of_getElem? (i := 24) rfl⟩
      | n + 25, h => exact absurd h (by omega)
    obtain ⟨p, hp⟩ := hm i hi
    exact mem_allg (wsAt_mem wcd_0 hp) rfl
  rcases Nat.lt_or_ge k 50 with h | h1
  · obtain ⟨i, hi, rfl⟩ : ∃ i, i < 25 ∧ k = 25 + i := ⟨k - 25, by omega, by omega⟩
    have hm : ∀ i, i < 25 → ∃ p, (wCd (25 + i), p) ∈ [(wCd 25, 463), (wCd 26, 471), (wCd 27, 479), (wCd 28, 196), (wCd 29, 370), (wCd 30, 394), (wCd 31, 401), (wCd 32, 430), (wCd 33, 458), (wCd 34, 386), (wCd 35, 390), (wCd 36, 397), (wCd 37, 404), (wCd 38, 112), (wCd 39, 521), (wCd 40, 420), (wCd 41, 475), (wCd 42, 525), (wCd 43, 592), (wCd 44, 598), (wCd 45, 210), (wCd 46, 693), (wCd 47, 789), (wCd 48, 281), (wCd 49, 705)] := by
      intro i hi
      match i, hi with
      | 0, _ => exact ⟨463, List.mem_of_getElem? (i := 0) rfl⟩
      | 1, _ => exact ⟨471, List.mem_of_getElem? (i := 1) rfl⟩
      | 2, _ => exact ⟨479, List.mem_of_getElem? (i := 2) rfl⟩
      | 3, _ => exact ⟨196, List.mem_of_getElem? (i := 3) rfl⟩
      | 4, _ => exact ⟨370, List.mem_of_getElem? (i := 4) rfl⟩
      | 5, _ => exact ⟨394, List.mem_of_getElem? (i := 5) rfl⟩
      | 6, _ => exact ⟨401, List.mem_of_getElem? (i := 6) rfl⟩
      | 7, _ => exact ⟨430, List.mem_of_getElem? (i := 7) rfl⟩
      | 8, _ => exact ⟨458, List.mem_of_getElem? (i := 8) rfl⟩
      | 9, _ => exact ⟨386, List.mem_of_getElem? (i := 9) rfl⟩
      | 10, _ => exact ⟨390, List.mem_of_getElem? (i := 10) rfl⟩
      | 11, _ => exact ⟨397, List.mem_of_getElem? (i := 11) rfl⟩
      | 12, _ => exact ⟨404, List.mem_of_getElem? (i := 12) rfl⟩
      | 13, _ => exact ⟨112, List.mem_of_getElem? (i := 13) rfl⟩
      | 14, _ => exact ⟨521, List.mem_of_getElem? (i := 14) rfl⟩
      | 15, _ => exact ⟨420, List.mem_of_getElem? (i := 15) rfl⟩
      | 16, _ => exact ⟨475, List.mem_of_getElem? (i := 16) rfl⟩
      | 17, _ => exact ⟨525, List.mem_of_getElem? (i := 17) rfl⟩
      | 18, _ => exact ⟨592, List.mem_of_getElem? (i := 18) rfl⟩
      | 19, _ => exact ⟨598, List.mem_of_getElem? (i := 19) rfl⟩
      | 20, _ => exact ⟨210, List.mem_of_getElem? (i := 20) rfl⟩
      | 21, _ => exact ⟨693, List.mem_of_getElem? (i := 21) rfl⟩
      | 22, _ => exact ⟨789, List.mem_of_getElem? (i := 22) rfl⟩
      | 23, _ => exact ⟨281, List.mem_of_getElem? (i := 23) rfl⟩
      | 24, _ => exact ⟨705, List.mem_of_getElem? (i := 24) rfl⟩
      | n + 25, h => exact absurd h (by omega)
    obtain ⟨p, hp⟩ := hm i hi
    exact mem_allg (wsAt_mem wcd_1 hp) rfl
  rcases Nat.lt_or_ge k 75 with h | h2
  · obtain ⟨i, hi, rfl⟩ : ∃ i, i < 25 ∧ k = 50 + i := ⟨k - 50, by omega, by omega⟩
    have hm : ∀ i, i < 25 → ∃ p, (wCd (50 + i), p) ∈ [(wCd 50, 732), (wCd 51, 736), (wCd 52, 745), (wCd 53, 753), (wCd 54, 761), (wCd 55, 768), (wCd 56, 772), (wCd 57, 785), (wCd 58, 808), (wCd 59, 82), (wCd 60, 501), (wCd 61, 415), (wCd 62, 467), (wCd 63, 505), (wCd 64, 513), (wCd 65, 633), (wCd 66, 816), (wCd 67, 820), (wCd 68, 266), (wCd 69, 584), (wCd 70, 588), (wCd 71, 606), (wCd 72, 718), (wCd 73, 68), (wCd 74, 363)] := by
      intro i hi
      match i, hi with
      | 0, _ => exact ⟨732, List.mem_of_getElem? (i := 0) rfl⟩
      | 1, _ => exact ⟨736, List.mem_of_getElem? (i := 1) rfl⟩
      | 2, _ => exact ⟨745, List.mem_of_getElem? (i := 2) rfl⟩
      | 3, _ => exact ⟨753, List.mem_of_getElem? (i := 3) rfl⟩
      | 4, _ => exact ⟨761, List.mem_of_getElem? (i := 4) rfl⟩
      | 5, _ => exact ⟨768, List.mem_of_getElem? (i := 5) rfl⟩
      | 6, _ => exact ⟨772, List.mem_of_getElem? (i := 6) rfl⟩
      | 7, _ => exact ⟨785, List.mem_of_getElem? (i := 7) rfl⟩
      | 8, _ => exact ⟨808, List.mem_of_getElem? (i := 8) rfl⟩
      | 9, _ => exact ⟨82, List.mem_of_getElem? (i := 9) rfl⟩
      | 10, _ => exact ⟨501, List.mem_of_getElem? (i := 10) rfl⟩
      | 11, _ => exact ⟨415, List.mem_of_getElem? (i := 11) rfl⟩
      | 12, _ => exact ⟨467, List.mem_of_getElem? (i := 12) rfl⟩
      | 13, _ => exact ⟨505, List.mem_of_getElem? (i := 13) rfl⟩
      | 14, _ => exact ⟨513, List.mem_of_getElem? (i := 14) rfl⟩
      | 15, _ => exact ⟨633, List.mem_of_getElem? (i := 15) rfl⟩
      | 16, _ => exact ⟨816, List.mem_of_getElem? (i := 16) rfl⟩
      | 17, _ => exact ⟨820, List.mem_of_getElem? (i := 17) rfl⟩
      | 18, _ => exact ⟨266, List.mem_of_getElem? (i := 18) rfl⟩
      | 19, _ => exact ⟨584, List.mem_of_getElem? (i := 19) rfl⟩
      | 20, _ => exact ⟨588, List.mem_of_getElem? (i := 20) rfl⟩
      | 21, _ => exact ⟨606, List.mem_of_getElem? (i := 21) rfl⟩
      | 22, _ => exact ⟨718, List.mem_of_getElem? (i := 22) rfl⟩
      | 23, _ => exact ⟨68, List.mem_of_getElem? (i := 23) rfl⟩
      | 24, _ => exact ⟨363, List.mem_of_getElem? (i := 24) rfl⟩
      | n + 25, h => exact absurd h (by omega)
    obtain ⟨p, hp⟩ := hm i hi
    exact mem_allg (wsAt_mem wcd_2 hp) rfl
  rcases Nat.lt_or_ge k 100 with h | h3
  · obtain ⟨i, hi, rfl⟩ : ∃ i, i < 25 ∧ k = 75 + i := ⟨k - 75, by omega, by omega⟩
    have hm : ∀ i, i < 25 → ∃ p, (wCd (75 + i), p) ∈ [(wCd 75, 378), (wCd 76, 483), (wCd 77, 491), (wCd 78, 497), (wCd 79, 517), (wCd 80, 530), (wCd 81, 538), (wCd 82, 542), (wCd 83, 546), (wCd 84, 580), (wCd 85, 602), (wCd 86, 610), (wCd 87, 618), (wCd 88, 637), (wCd 89, 642), (wCd 90, 646), (wCd 91, 658), (wCd 92, 667), (wCd 93, 677), (wCd 94, 681), (wCd 95, 689), (wCd 96, 697), (wCd 97, 701), (wCd 98, 728), (wCd 99, 749)] := by
      intro i hi
      match i, hi with
      | 0, _ => exact ⟨378, List.mem_of_getElem? (i := 0) rfl⟩
      | 1, _ => exact ⟨483, List.mem_of_getElem? (i := 1) rfl⟩
      | 2, _ => exact ⟨491, List.mem_of_getElem? (i := 2) rfl⟩
      | 3, _ => exact ⟨497, List.mem_of_getElem? (i := 3) rfl⟩
      | 4, _ => exact ⟨517, List.mem_of_getElem? (i := 4) rfl⟩
      | 5, _ => exact ⟨530, List.mem_of_getElem? (i := 5) rfl⟩
      | 6, _ => exact ⟨538, List.mem_of_getElem? (i := 6) rfl⟩
      | 7, _ => exact ⟨542, List.mem_of_getElem? (i := 7) rfl⟩
      | 8, _ => exact ⟨546, List.mem_of_getElem? (i := 8) rfl⟩
      | 9, _ => exact ⟨580, List.mem_of_getElem? (i := 9) rfl⟩
      | 10, _ => exact ⟨602, List.mem_of_getElem? (i := 10) rfl⟩
      | 11, _ => exact ⟨610, List.mem_of_getElem? (i := 11) rfl⟩
      | 12, _ => exact ⟨618, List.mem_of_getElem? (i := 12) rfl⟩
      | 13, _ => exact ⟨637, List.mem_of_getElem? (i := 13) rfl⟩
      | 14, _ => exact ⟨642, List.mem_of_getElem? (i := 14) rfl⟩
      | 15, _ => exact ⟨646, List.mem_of_getElem? (i := 15) rfl⟩
      | 16, _ => exact ⟨658, List.mem_of_getElem? (i := 16) rfl⟩
      | 17, _ => exact ⟨667, List.mem_of_getElem? (i := 17) rfl⟩
      | 18, _ => exact ⟨677, List.mem_of_getElem? (i := 18) rfl⟩
      | 19, _ => exact ⟨681, List.mem_of_getElem? (i := 19) rfl⟩
      | 20, _ => exact ⟨689, List.mem_of_getElem? (i := 20) rfl⟩
      | 21, _ => exact ⟨697, List.mem_of_getElem? (i := 21) rfl⟩
      | 22, _ => exact ⟨701, List.mem_of_getElem? (i := 22) rfl⟩
      | 23, _ => exact ⟨728, List.mem_of_getElem? (i := 23) rfl⟩
      | 24, _ => exact ⟨749, List.mem_of_getElem? (i := 24) rfl⟩
      | n + 25, h => exact absurd h (by omega)
    obtain ⟨p, hp⟩ := hm i hi
    exact mem_allg (wsAt_mem wcd_3 hp) rfl
  rcases Nat.lt_or_ge k 125 with h | h4
  · obtain ⟨i, hi, rfl⟩ : ∃ i, i < 25 ∧ k = 100 + i := ⟨k - 100, by omega, by omega⟩
    have hm : ∀ i, i < 25 → ∃ p, (wCd (100 + i), p) ∈ [(wCd 100, 757), (wCd 101, 776), (wCd 102, 799), (wCd 103, 804), (wCd 104, 812), (wCd 105, 827), (wCd 106, 836), (wCd 107, 840), (wCd 108, 844), (wCd 109, 374), (wCd 110, 614), (wCd 111, 780), (wCd 112, 382), (wCd 113, 426), (wCd 114, 366), (wCd 115, 487), (wCd 116, 450), (wCd 117, 832), (wCd 118, 792), (wCd 119, 795), (wCd 120, 849), (wCd 121, 985), (wCd 122, 1186), (wCd 123, 1247), (wCd 124, 1011)] := by
      intro i hi
      match i, hi with
      | 0, _ => exact ⟨757, List.mem_of_getElem? (i := 0) rfl⟩
      | 1, _ => exact ⟨776, List.mem_of_getElem? (i := 1) rfl⟩
      | 2, _ => exact ⟨799, List.mem_of_getElem? (i := 2) rfl⟩
      | 3, _ => exact ⟨804, List.mem_of_getElem? (i := 3) rfl⟩
      | 4, _ => exact ⟨812, List.mem_of_getElem? (i := 4) rfl⟩
      | 5, _ => exact ⟨827, List.mem_of_getElem? (i := 5) rfl⟩
      | 6, _ => exact ⟨836, List.mem_of_getElem? (i := 6) rfl⟩
      | 7, _ => exact ⟨840, List.mem_of_getElem? (i := 7) rfl⟩
      | 8, _ => exact ⟨844, List.mem_of_getElem? (i := 8) rfl⟩
      | 9, _ => exact ⟨374, List.mem_of_getElem? (i := 9) rfl⟩
      | 10, _ => exact ⟨614, List.mem_of_getElem? (i := 10) rfl⟩
      | 11, _ => exact ⟨780, List.mem_of_getElem? (i := 11) rfl⟩
      | 12, _ => exact ⟨382, List.mem_of_getElem? (i := 12) rfl⟩
      | 13, _ => exact ⟨426, List.mem_of_getElem? (i := 13) rfl⟩
      | 14, _ => exact ⟨366, List.mem_of_getElem? (i := 14) rfl⟩
      | 15, _ => exact ⟨487, List.mem_of_getElem? (i := 15) rfl⟩
      | 16, _ => exact ⟨450, List.mem_of_getElem? (i := 16) rfl⟩
      | 17, _ => exact ⟨832, List.mem_of_getElem? (i := 17) rfl⟩
      | 18, _ => exact ⟨792, List.mem_of_getElem? (i := 18) rfl⟩
      | 19, _ => exact ⟨795, List.mem_of_getElem? (i := 19) rfl⟩
      | 20, _ => exact ⟨849, List.mem_of_getElem? (i := 20) rfl⟩
      | 21, _ => exact ⟨985, List.mem_of_getElem? (i := 21) rfl⟩
      | 22, _ => exact ⟨1186, List.mem_of_getElem? (i := 22) rfl⟩
      | 23, _ => exact ⟨1247, List.mem_of_getElem? (i := 23) rfl⟩
      | 24, _ => exact ⟨1011, List.mem_of_getElem? (i := 24) rfl⟩
      | n + 25, h => exact absurd h (by omega)
    obtain ⟨p, hp⟩ := hm i hi
    exact mem_allg (wsAt_mem wcd_4 hp) rfl
  rcases Nat.lt_or_ge k 150 with h | h5
  · obtain ⟨i, hi, rfl⟩ : ∃ i, i < 25 ∧ k = 125 + i := ⟨k - 125, by omega, by omega⟩
    have hm : ∀ i, i < 25 → ∃ p, (wCd (125 + i), p) ∈ [(wCd 125, 981), (wCd 126, 1035), (wCd 127, 1071), (wCd 128, 1087), (wCd 129, 1118), (wCd 130, 978), (wCd 131, 997), (wCd 132, 1008), (wCd 133, 1004), (wCd 134, 1000), (wCd 135, 993), (wCd 136, 1031), (wCd 137, 1039), (wCd 138, 1043), (wCd 139, 1047), (wCd 140, 1027), (wCd 141, 989), (wCd 142, 1019), (wCd 143, 1023), (wCd 144, 1015), (wCd 145, 1051), (wCd 146, 1055), (wCd 147, 1075), (wCd 148, 1079), (wCd 149, 1115)] := by
      intro i hi
      match i, hi with
      | 0, _ => exact ⟨981, List.mem_of_getElem? (i := 0) rfl⟩
      | 1, _ => exact ⟨1035, List.mem_of_getElem? (i := 1) rfl⟩
      | 2, _ => exact ⟨1071, List.mem_of_getElem? (i := 2) rfl⟩
      | 3, _ => exact ⟨1087, List.mem_of_getElem? (i := 3) rfl⟩
      | 4, _ => exact ⟨1118, List.mem_of_getElem? (i := 4) rfl⟩
      | 5, _ => exact ⟨978, List.mem_of_getElem? (i := 5) rfl⟩
      | 6, _ => exact ⟨997, List.mem_of_getElem? (i := 6) rfl⟩
      | 7, _ => exact ⟨1008, List.mem_of_getElem? (i := 7) rfl⟩
      | 8, _ => exact ⟨1004, List.mem_of_getElem? (i := 8) rfl⟩
      | 9, _ => exact ⟨1000, List.mem_of_getElem? (i := 9) rfl⟩
      | 10, _ => exact ⟨993, List.mem_of_getElem? (i := 10) rfl⟩
      | 11, _ => exact ⟨1031, List.mem_of_getElem? (i := 11) rfl⟩
      | 12, _ => exact ⟨1039, List.mem_of_getElem? (i := 12) rfl⟩
      | 13, _ => exact ⟨1043, List.mem_of_getElem? (i := 13) rfl⟩
      | 14, _ => exact ⟨1047, List.mem_of_getElem? (i := 14) rfl⟩
      | 15, _ => exact ⟨1027, List.mem_of_getElem? (i := 15) rfl⟩
      | 16, _ => exact ⟨989, List.mem_of_getElem? (i := 16) rfl⟩
      | 17, _ => exact ⟨1019, List.mem_of_getElem? (i := 17) rfl⟩
      | 18, _ => exact ⟨1023, List.mem_of_getElem? (i := 18) rfl⟩
      | 19, _ => exact ⟨1015, List.mem_of_getElem? (i := 19) rfl⟩
      | 20, _ => exact ⟨1051, List.mem_of_getElem? (i := 20) rfl⟩
      | 21, _ => exact ⟨1055, List.mem_of_getElem? (i := 21) rfl⟩
      | 22, _ => exact ⟨1075, List.mem_of_getElem? (i := 22) rfl⟩
      | 23, _ => exact ⟨1079, List.mem_of_getElem? (i := 23) rfl⟩
      | 24, _ => exact ⟨1115, List.mem_of_getElem? (i := 24) rfl⟩
      | n + 25, h => exact absurd h (by omega)
    obtain ⟨p, hp⟩ := hm i hi
    exact mem_allg (wsAt_mem wcd_5 hp) rfl
  rcases Nat.lt_or_ge k 175 with h | h6
  · obtain ⟨i, hi, rfl⟩ : ∃ i, i < 25 ∧ k = 150 + i := ⟨k - 150, by omega, by omega⟩
    have hm : ∀ i, i < 25 → ∃ p, (wCd (150 + i), p) ∈ [(wCd 150, 1111), (wCd 151, 1059), (wCd 152, 1063), (wCd 153, 1067), (wCd 154, 1091), (wCd 155, 1083), (wCd 156, 1095), (wCd 157, 1099), (wCd 158, 1103), (wCd 159, 1107), (wCd 160, 1130), (wCd 161, 1126), (wCd 162, 1122), (wCd 163, 1138), (wCd 164, 1134), (wCd 165, 1150), (wCd 166, 1146), (wCd 167, 1142), (wCd 168, 1158), (wCd 169, 1154), (wCd 170, 1170), (wCd 171, 1166), (wCd 172, 1162), (wCd 173, 1174), (wCd 174, 1178)] := by
      intro i hi
      match i, hi with
      | 0, _ => exact ⟨1111, List.mem_of_getElem? (i := 0) rfl⟩
      | 1, _ => exact ⟨1059, List.mem_of_getElem? (i := 1) rfl⟩
      | 2, _ => exact ⟨1063, List.mem_of_getElem? (i := 2) rfl⟩
      | 3, _ => exact ⟨1067, List.mem_of_getElem? (i := 3) rfl⟩
      | 4, _ => exact ⟨1091, List.mem_of_getElem? (i := 4) rfl⟩
      | 5, _ => exact ⟨1083, List.mem_of_getElem? (i := 5) rfl⟩
      | 6, _ => exact ⟨1095, List.mem_of_getElem? (i := 6) rfl⟩
      | 7, _ => exact ⟨1099, List.mem_of_getElem? (i := 7) rfl⟩
      | 8, _ => exact ⟨1103, List.mem_of_getElem? (i := 8) rfl⟩
      | 9, _ => exact ⟨1107, List.mem_of_getElem? (i := 9) rfl⟩
      | 10, _ => exact ⟨1130, List.mem_of_getElem? (i := 10) rfl⟩
      | 11, _ => exact ⟨1126, List.mem_of_getElem? (i := 11) rfl⟩
      | 12, _ => exact ⟨1122, List.mem_of_getElem? (i := 12) rfl⟩
      | 13, _ => exact ⟨1138, List.mem_of_getElem? (i := 13) rfl⟩
      | 14, _ => exact ⟨1134, List.mem_of_getElem? (i := 14) rfl⟩
      | 15, _ => exact ⟨1150, List.mem_of_getElem? (i := 15) rfl⟩
      | 16, _ => exact ⟨1146, List.mem_of_getElem? (i := 16) rfl⟩
      | 17, _ => exact ⟨1142, List.mem_of_getElem? (i := 17) rfl⟩
      | 18, _ => exact ⟨1158, List.mem_of_getElem? (i := 18) rfl⟩
      | 19, _ => exact ⟨1154, List.mem_of_getElem? (i := 19) rfl⟩
      | 20, _ => exact ⟨1170, List.mem_of_getElem? (i := 20) rfl⟩
      | 21, _ => exact ⟨1166, List.mem_of_getElem? (i := 21) rfl⟩
      | 22, _ => exact ⟨1162, List.mem_of_getElem? (i := 22) rfl⟩
      | 23, _ => exact ⟨1174, List.mem_of_getElem? (i := 23) rfl⟩
      | 24, _ => exact ⟨1178, List.mem_of_getElem? (i := 24) rfl⟩
      | n + 25, h => exact absurd h (by omega)
    obtain ⟨p, hp⟩ := hm i hi
    exact mem_allg (wsAt_mem wcd_6 hp) rfl
  rcases Nat.lt_or_ge k 200 with h | h7
  · obtain ⟨i, hi, rfl⟩ : ∃ i, i < 25 ∧ k = 175 + i := ⟨k - 175, by omega, by omega⟩
    have hm : ∀ i, i < 25 → ∃ p, (wCd (175 + i), p) ∈ [(wCd 175, 1182), (wCd 176, 1191), (wCd 177, 1195), (wCd 178, 1199), (wCd 179, 1203), (wCd 180, 1207), (wCd 181, 1215), (wCd 182, 1219), (wCd 183, 1211), (wCd 184, 1227), (wCd 185, 1223), (wCd 186, 1235), (wCd 187, 1231), (wCd 188, 1239), (wCd 189, 1256), (wCd 190, 1252), (wCd 191, 1262), (wCd 192, 1259), (wCd 193, 1243), (wCd 194, 1266), (wCd 195, 1270), (wCd 196, 1274), (wCd 197, 1278), (wCd 198, 1285), (wCd 199, 1289)] := by
      intro i hi
      match i, hi with
      | 0, _ => exact ⟨1182, List.mem_of_getElem? (i := 0) rfl⟩
      | 1, _ => exact ⟨1191, List.mem_of_getElem? (i := 1) rfl⟩
      | 2, _ => exact ⟨1195, List.mem_of_getElem? (i := 2) rfl⟩
      | 3, _ => exact ⟨1199, List.mem_of_getElem? (i := 3) rfl⟩
      | 4, _ => exact ⟨1203, List.mem_of_getElem? (i := 4) rfl⟩
      | 5, _ => exact ⟨1207, List.mem_of_getElem? (i := 5) rfl⟩
      | 6, _ => exact ⟨1215, List.mem_of_getElem? (i := 6) rfl⟩
      | 7, _ => exact ⟨1219, List.mem_of_getElem? (i := 7) rfl⟩
      | 8, _ => exact ⟨1211, List.mem_of_getElem? (i := 8) rfl⟩
      | 9, _ => exact ⟨1227, List.mem_of_getElem? (i := 9) rfl⟩
      | 10, _ => exact ⟨1223, List.mem_of_getElem? (i := 10) rfl⟩
      | 11, _ => exact ⟨1235, List.mem_of_getElem? (i := 11) rfl⟩
      | 12, _ => exact ⟨1231, List.mem_of_getElem? (i := 12) rfl⟩
      | 13, _ => exact ⟨1239, List.mem_of_getElem? (i := 13) rfl⟩
      | 14, _ => exact ⟨1256, List.mem_of_getElem? (i := 14) rfl⟩
      | 15, _ => exact ⟨1252, List.mem_of_getElem? (i := 15) rfl⟩
      | 16, _ => exact ⟨1262, List.mem_of_getElem? (i := 16) rfl⟩
      | 17, _ => exact ⟨1259, List.mem_of_getElem? (i := 17) rfl⟩
      | 18, _ => exact ⟨1243, List.mem_of_getElem? (i := 18) rfl⟩
      | 19, _ => exact ⟨1266, List.mem_of_getElem? (i := 19) rfl⟩
      | 20, _ => exact ⟨1270, List.mem_of_getElem? (i := 20) rfl⟩
      | 21, _ => exact ⟨1274, List.mem_of_getElem? (i := 21) rfl⟩
      | 22, _ => exact ⟨1278, List.mem_of_getElem? (i := 22) rfl⟩
      | 23, _ => exact ⟨1285, List.mem_of_getElem? (i := 23) rfl⟩
      | 24, _ => exact ⟨1289, List.mem_of_getElem? (i := 24) rfl⟩
      | n + 25, h => exact absurd h (by omega)
    obtain ⟨p, hp⟩ := hm i hi
    exact mem_allg (wsAt_mem wcd_7 hp) rfl
  rcases Nat.lt_or_ge k 201 with h | h8
  · obtain ⟨i, hi, rfl⟩ : ∃ i, i < 1 ∧ k = 200 + i := ⟨k - 200, by omega, by omega⟩
    have hm : ∀ i, i < 1 → ∃ p, (wCd (200 + i), p) ∈ [(wCd 200, 138)] := by
      intro i hi
      match i, hi with
      | 0, _ => exact ⟨138, List.mem_of_getElem? (i := 0) rfl⟩
      | n + 1, h => exact absurd h (by omega)
    obtain ⟨p, hp⟩ := hm i hi
    exact mem_allg (wsAt_mem wcd_8 hp) rfl
  · omega
theorem wini : wsAt [(.initialized (cn 0), 57), (.initialized (cn 1), 60), (.initialized (cn 2), 51), (.initialized (cn 3), 55), (.initialized (cn 4), 53), (.initialized (cn 5), 56), (.initialized (cn 6), 59), (.initialized (cn 7), 52), (.initialized (cn 8), 58), (.initialized (cn 9), 50), (.initialized (cn 10), 61), (.initialized (cn 11), 49), (.initialized (cn 12), 54), (.initialized "java/lang/System", 62), (.initialized "java/lang/Math", 63)] = true := by decide +kernel
theorem wini_ok : ∀ i, i < 13 → Jvm.Cond.initialized (cn i) ∈ ALLG := by
  intro i hi
  match i, hi with
  | 0, _ => exact mem_allg (wsAt_mem (i := 57) wini (List.mem_of_getElem? (i := 0) rfl)) rfl
  | 1, _ => exact mem_allg (wsAt_mem (i := 60) wini (List.mem_of_getElem? (i := 1) rfl)) rfl
  | 2, _ => exact mem_allg (wsAt_mem (i := 51) wini (List.mem_of_getElem? (i := 2) rfl)) rfl
  | 3, _ => exact mem_allg (wsAt_mem (i := 55) wini (List.mem_of_getElem? (i := 3) rfl)) rfl
  | 4, _ => exact mem_allg (wsAt_mem (i := 53) wini (List.mem_of_getElem? (i := 4) rfl)) rfl
  | 5, _ => exact mem_allg (wsAt_mem (i := 56) wini (List.mem_of_getElem? (i := 5) rfl)) rfl
  | 6, _ => exact mem_allg (wsAt_mem (i := 59) wini (List.mem_of_getElem? (i := 6) rfl)) rfl
  | 7, _ => exact mem_allg (wsAt_mem (i := 52) wini (List.mem_of_getElem? (i := 7) rfl)) rfl
  | 8, _ => exact mem_allg (wsAt_mem (i := 58) wini (List.mem_of_getElem? (i := 8) rfl)) rfl
  | 9, _ => exact mem_allg (wsAt_mem (i := 50) wini (List.mem_of_getElem? (i := 9) rfl)) rfl
  | 10, _ => exact mem_allg (wsAt_mem (i := 61) wini (List.mem_of_getElem? (i := 10) rfl)) rfl
  | 11, _ => exact mem_allg (wsAt_mem (i := 49) wini (List.mem_of_getElem? (i := 11) rfl)) rfl
  | 12, _ => exact mem_allg (wsAt_mem (i := 54) wini (List.mem_of_getElem? (i := 12) rfl)) rfl
theorem wini_sys : Jvm.Cond.initialized "java/lang/System" ∈ ALLG := mem_allg (wsAt_mem (i := 62) wini (List.mem_of_getElem? (i := 13) rfl)) rfl
theorem wini_math : Jvm.Cond.initialized "java/lang/Math" ∈ ALLG := mem_allg (wsAt_mem (i := 63) wini (List.mem_of_getElem? (i := 14) rfl)) rfl
theorem mn_ok : (List.range 201).all (fun k => decide ((mN k).cls = cn (mO k)) && decide (mO k < 13) && decide (mL k ≤ 24) && plainName (mN k).cls && decide ((mN k).cls ≠ "java/lang/invoke/MethodHandle") && decide ((mN k).cls ≠ "java/lang/invoke/VarHandle")) = true := by decide +kernel
theorem mn_at {k : Nat} (hk : k < 201) : (mN k).cls = cn (mO k) ∧ mO k < 13 ∧ mL k ≤ 24 ∧ plainName (mN k).cls = true ∧ (mN k).cls ≠ "java/lang/invoke/MethodHandle" ∧ (mN k).cls ≠ "java/lang/invoke/VarHandle" := by
  have h := List.all_eq_true.mp mn_ok k (List.mem_range.mpr hk)
  simp only [Bool.and_eq_true, decide_eq_true_eq] at h
  obtain ⟨⟨⟨⟨⟨h1, h2⟩, h3⟩, h4⟩, h5⟩, h6⟩ := h
  exact ⟨h1, h2, h3, h4, h5, h6⟩
def FLP : List Nat := [230, 233, 234, 235, 237, 239, 240, 241, 242, 149, 144, 161, 142, 167, 86, 156, 159, 153, 291, 231, 139, 143, 146, 148, 151, 154, 157, 160, 164, 168, 198, 199, 114, 116, 118, 120, 122, 212, 215, 300, 302, 304, 306, 308, 309, 310, 311, 169, 216, 123, 165, 85, 214, 141, 163, 84, 88, 90, 92, 94, 268, 270, 217, 213, 329, 330, 331, 332, 333, 334, 335, 336, 337, 338, 200, 150, 152, 155, 158, 166, 89, 91, 93, 95, 145, 162, 140, 170, 117, 119, 121, 124, 232, 236, 147, 269, 271, 218, 301, 87, 305, 307, 303, 238, 115, 851, 852, 853, 854, 855, 856, 857, 858, 859, 860, 861, 862, 863, 864, 869, 870, 872, 873, 874, 875, 879, 883, 884, 885, 886, 887, 890, 891, 865, 866, 876, 877, 878, 881, 882, 867, 868, 871, 880, 888, 889]
theorem fl_ok : wsAt ((FL.map wF).zip FLP) = true := by decide +kernel
theorem fl_len : (FL.map wF).length = FLP.length := by decide +kernel
theorem zip_at {α β : Type} {l : List α} {m : List β} (hl : l.length = m.length) {i : Nat} {x : α} (h : l[i]? = some x) : ∃ y, (x, y) ∈ l.zip m := by
  have h1 : i < l.length := (List.getElem?_eq_some_iff.mp h).1
  have h2 : i < m.length := by omega
  refine ⟨m[i], List.mem_of_getElem? (i := i) ?_⟩
  rw [List.getElem?_zip_eq_some]
  exact ⟨h, List.getElem?_eq_getElem h2⟩
theorem fl_at {a : Nat} {e : Nat × Nat × Nat × Nat} (h : FL[a]? = some e) : wF e ∈ ALLG := by
  obtain ⟨y, hy⟩ := zip_at fl_len (i := a) (x := wF e) (by rw [List.getElem?_map, h]; rfl)
  exact mem_allg (wsAt_mem fl_ok hy) rfl
def mlw (e : Nat × Nat × Nat × Nat × Nat) : List Jvm.Cond := match e with
  | (o, x, 0, j, _) => [.methodLink (cn o) x (mN j), .instanceMethod (mN j), .selects (cn (mO j)) (mN j) (mN j)]
  | (o, x, 1, j, _) => [.methodLink (cn o) x (mN j), .static (mN j)]
  | (o, x, 2, j, _) => [.methodLink (cn o) x (mN j), .instanceMethod (mN j)]
  | (o, x, 3, j, _) => [.methodLinkNest (cn o) x (mN j) "SmellInTheHouse", .instanceMethod (mN j)]
  | (o, x, 4, j, _) => [.methodLinkNest (cn o) x (mN j) "SmellInTheHouse", .static (mN j)]
  | (o, x, 5, _, _) => [.methodLink (cn o) x Lib.objectInit]
  | (o, x, 6, _, _) => [.methodLink (cn o) x arraycopyName]
  | (o, x, 7, _, _) => [.methodLink (cn o) x Lib.Math.max.name]
  | (o, x, 8, _, _) => [.methodLink (cn o) x Lib.Math.min.name]
  | _ => []
def MLP : List (List Nat) := [[229], [551], [672, 548, 549], [570, 137], [556, 557, 558], [560, 562, 3], [571, 573, 4], [567], [564, 511, 512], [565, 445, 446], [566, 503, 504], [575, 449], [627, 628], [630, 631, 632], [673, 553, 554], [290], [712, 557, 558], [713, 445, 446], [77], [80, 81], [110, 111], [136, 137], [444, 445, 446], [409], [412, 413, 414], [417, 418, 419], [440, 441, 442], [448, 449], [464, 465, 466], [472, 473, 474], [197], [391, 392, 393], [398, 399, 400], [459, 428, 429], [387, 388, 389], [395, 396], [402, 403], [113], [421], [526, 519, 520], [593, 523, 524], [211], [282], [284, 227], [287, 288], [297, 265], [299, 209], [706, 519, 520], [707, 548, 549], [708, 709, 710], [714, 582, 583], [715, 716, 717], [733, 735, 6], [742, 744, 7], [737, 738, 739], [741, 553, 554], [762], [763, 137], [764, 751, 752], [765, 767, 8], [769, 771, 9], [786, 787, 788], [83], [416], [506, 499, 500], [507], [821, 814, 815], [822, 503, 504], [267], [589, 590, 591], [594], [595, 596, 597], [719, 604, 605], [720, 721, 722], [724, 586, 587], [69], [74, 75], [194, 195], [208, 209], [226, 227], [264, 265], [279, 280], [364, 365], [367, 368, 369], [371, 373, 0], [379, 381, 1], [484, 445, 446], [485, 486], [492, 441, 442], [493, 449], [498, 499, 500], [502, 503, 504], [510, 511, 512], [518, 519, 520], [522, 523, 524], [476, 477, 478], [547, 548, 549], [552, 553, 554], [576], [581, 582, 583], [585, 586, 587], [603, 604, 605], [611, 613, 5], [619, 620, 621], [623, 624, 625], [638, 557, 558], [647, 648, 649], [651, 652, 653], [660, 661, 662], [668, 669, 670], [682, 683, 684], [690, 691, 692], [702, 703, 704], [729, 730, 731], [750, 751, 752], [758, 759, 760], [777, 779, 10], [782, 783, 784], [790, 791], [800, 787, 788], [805, 806, 807], [813, 814, 815], [817, 818, 819], [823], [830, 831], [405, 406, 407], [383, 384, 385], [422, 388, 389], [423, 425, 2], [427, 428, 429], [431, 392, 393], [432, 433, 434], [436, 437, 438], [451, 452, 453], [455, 456, 457], [460, 461, 462], [468, 469, 470], [793, 794], [850], [979, 980], [982, 984, 11], [994, 996, 13], [1009, 1010], [1005, 1007, 15], [998, 999], [1001, 1003, 14], [1032, 1034, 21], [1028, 1030, 20], [1036, 1038, 22], [1040, 1042, 23], [1044, 1046, 24], [990, 992, 12], [1012, 1014, 16], [1024, 1026, 19], [1016, 1018, 17], [1020, 1022, 18], [1076, 1078, 27], [1072, 1074, 26], [1116, 1117], [1112, 1114, 31], [1068, 1070, 25], [1084, 1086, 28], [1088, 1090, 29], [1108, 1110, 30], [1127, 1129, 33], [1123, 1125, 32], [1135, 1137, 34], [1143, 1145, 35], [1147, 1149, 36], [1155, 1157, 37], [1167, 1169, 39], [1163, 1165, 38], [1183, 1185, 40], [1212, 1214, 41], [1216, 1218, 42], [1224, 1226, 43], [1232, 1234, 44], [1253, 1255, 47], [1260, 1261], [1244, 1246, 45], [1249, 1251, 46], [1257, 1258], [1282, 1284, 48], [66, 67], [847, 848], [360, 361, 362], [975, 976, 977], [375, 376, 377], [986, 987, 988], [480, 481, 482], [1056, 1057, 1058], [488, 489, 490], [1060, 1061, 1062], [494, 495, 496], [1064, 1065, 1066], [514, 515, 516], [1080, 1081, 1082], [527, 528, 529], [1092, 1093, 1094], [535, 536, 537], [1096, 1097, 1098], [539, 540, 541], [1100, 1101, 1102], [543, 544, 545], [1104, 1105, 1106], [577, 578, 579], [1119, 1120, 1121], [599, 600, 601], [1131, 1132, 1133], [607, 608, 609], [1139, 1140, 1141], [615, 616, 617], [1151, 1152, 1153], [634, 635, 636], [1159, 1160, 1161], [639, 640, 641], [1171, 1172, 1173], [643, 644, 645], [1175, 1176, 1177], [655, 656, 657], [1179, 1180, 1181], [664, 665, 666], [1188, 1189, 1190], [674, 675, 676], [1192, 1193, 1194], [678, 679, 680], [1196, 1197, 1198], [686, 687, 688], [1200, 1201, 1202], [694, 695, 696], [1204, 1205, 1206], [698, 699, 700], [1208, 1209, 1210], [725, 726, 727], [1220, 1221, 1222], [746, 747, 748], [1228, 1229, 1230], [754, 755, 756], [1236, 1237, 1238], [773, 774, 775], [1240, 1241, 1242], [796, 797, 798], [1263, 1264, 1265], [801, 802, 803], [1267, 1268, 1269], [809, 810, 811], [1271, 1272, 1273], [824, 825, 826], [1275, 1276, 1277], [833, 834, 835], [1048, 1049, 1050], [837, 838, 839], [1052, 1053, 1054], [841, 842, 843], [1286, 1287, 1288]]
def wsAts (l : List (List Jvm.Cond × List Nat)) : Bool := l.all (fun e => Nat.beq e.1.length e.2.length && wsAt (e.1.zip e.2))
theorem ml_ok : wsAts ((ML.map mlw).zip MLP) = true := by decide +kernel
theorem ml_len : (ML.map mlw).length = MLP.length := by decide +kernel
theorem ml_mem {a : Nat} {e : Nat × Nat × Nat × Nat × Nat} (h : ML[a]? = some e) {w : Jvm.Cond} (hw : w ∈ mlw e) : w ∈ lw_tbl := by
  obtain ⟨y, hy⟩ := zip_at ml_len (i := a) (x := mlw e) (by rw [List.getElem?_map, h]; rfl)
  have h1 := List.all_eq_true.mp ml_ok _ hy
  simp only [Bool.and_eq_true] at h1
  obtain ⟨i, hi⟩ := List.getElem?_of_mem hw
  obtain ⟨z, hz⟩ := zip_at (Nat.eq_of_beq_eq_true h1.1) hi
  exact wsAt_mem h1.2 hz
theorem ml_args : ML.all (fun e => if e.2.2.1 < 5 then decide ((parseMethodDescriptor (mN e.2.2.2.1).desc).map (fun d => d.parameters.length) = some e.2.2.2.2) else true) = true := by decide +kernel
theorem ml_init : ML.all (fun e => if e.2.2.1 = 2 ∨ e.2.2.1 = 3 then decide ((mN e.2.2.2.1).name = "<init>") && decide (mR e.2.2.2.1 = none) else true) = true := by decide +kernel
def clw (e : Nat × Nat × Nat) : List Jvm.Cond := [.classLink (cn e.1) e.2.1 (clI e.2.2).1, .instantiable (clI e.2.2).1 (clI e.2.2).2.2, .initialized (clI e.2.2).1]
def CLP : List (List Nat) := [[78, 79, 52], [108, 109, 53], [283, 225, 57], [285, 286, 60], [296, 263, 58], [298, 207, 56], [72, 73, 51], [192, 193, 55], [206, 207, 56], [224, 225, 57], [262, 263, 58], [277, 278, 59], [64, 65, 50], [845, 846, 61]]
theorem cl_ok : wsAts ((CL.map clw).zip CLP) = true := by decide +kernel
theorem cl_len : (CL.map clw).length = CLP.length := by decide +kernel
theorem cl_mem {a : Nat} {e : Nat × Nat × Nat} (h : CL[a]? = some e) {w : Jvm.Cond} (hw : w ∈ clw e) : w ∈ lw_tbl := by
  obtain ⟨y, hy⟩ := zip_at cl_len (i := a) (x := clw e) (by rw [List.getElem?_map, h]; rfl)
  have h1 := List.all_eq_true.mp cl_ok _ hy
  simp only [Bool.and_eq_true] at h1
  obtain ⟨i, hi⟩ := List.getElem?_of_mem hw
  obtain ⟨z, hz⟩ := zip_at (Nat.eq_of_beq_eq_true h1.1) hi
  exact wsAt_mem h1.2 hz
theorem kl_ok : wsAt [(.constant (cn 9) 229 1000000000, 659), (.constant (cn 9) 304 1103515245, 828), (.constant (cn 9) 305 2147483647, 829), (.constant (cn 10) 96 1000000000, 1187), (.constant (cn 10) 286 1103515245, 1279), (.constant (cn 10) 287 2147483647, 1280), (.constant (cn 10) 288 65536, 1281)] = true := by decide +kernel
theorem kl_at {a : Nat} {e : Nat × Nat × Int32} (h : KL[a]? = some e) : Jvm.Cond.constant (cn e.1) e.2.1 e.2.2 ∈ ALLG := by
  have ha : a < 7 := (List.getElem?_eq_some_iff.mp h).1
  match a, ha with
  | 0, _ => cases h; exact mem_allg (wsAt_mem (i := 659) kl_ok (List.mem_of_getElem? (i := 0) rfl)) rfl
  | 1, _ => cases h; exact mem_allg (wsAt_mem (i := 828) kl_ok (List.mem_of_getElem? (i := 1) rfl)) rfl
  | 2, _ => cases h; exact mem_allg (wsAt_mem (i := 829) kl_ok (List.mem_of_getElem? (i := 2) rfl)) rfl
  | 3, _ => cases h; exact mem_allg (wsAt_mem (i := 1187) kl_ok (List.mem_of_getElem? (i := 3) rfl)) rfl
  | 4, _ => cases h; exact mem_allg (wsAt_mem (i := 1279) kl_ok (List.mem_of_getElem? (i := 4) rfl)) rfl
  | 5, _ => cases h; exact mem_allg (wsAt_mem (i := 1280) kl_ok (List.mem_of_getElem? (i := 5) rfl)) rfl
  | 6, _ => cases h; exact mem_allg (wsAt_mem (i := 1281) kl_ok (List.mem_of_getElem? (i := 6) rfl)) rfl
theorem kll_ok : wsAt [(.constantLong (cn 9) 272 4000000000000000000, 781), (.constantLong (cn 10) 97 4000000000000000000, 1248)] = true := by decide +kernel
theorem kll_at {a : Nat} {e : Nat × Nat × Int64} (h : KLL[a]? = some e) : Jvm.Cond.constantLong (cn e.1) e.2.1 e.2.2 ∈ ALLG := by
  have ha : a < 2 := (List.getElem?_eq_some_iff.mp h).1
  match a, ha with
  | 0, _ => cases h; exact mem_allg (wsAt_mem (i := 781) kll_ok (List.mem_of_getElem? (i := 0) rfl)) rfl
  | 1, _ => cases h; exact mem_allg (wsAt_mem (i := 1248) kll_ok (List.mem_of_getElem? (i := 1) rfl)) rfl
theorem sl_1 : Jvm.Cond.fieldLink "SmellInTheHouse" 167 "SmellInTheHouse" "SETTING_MOST" "[I" ∈ ALLG := mem_allg (List.mem_of_getElem? (i := 531) (by decide +kernel)) rfl
theorem sl_0 : Jvm.Cond.fieldLink "SmellInTheHouse" 170 "SmellInTheHouse" "SETTING_LEAST" "[I" ∈ ALLG := mem_allg (List.mem_of_getElem? (i := 533) (by decide +kernel)) rfl
theorem w_oi : wsAt [(.instanceMethod Lib.objectInit, 70), (.code Lib.objectInit ⟨#[0xb1]⟩ 1 none, 71), (.native arraycopyName, 411), (.static arraycopyName, 410), (.static Lib.Math.max.name, 508), (.code Lib.Math.max.name Lib.Math.max.code 2 (some .int), 509), (.static Lib.Math.min.name, 568), (.code Lib.Math.min.name Lib.Math.min.code 2 (some .int), 569)] = true := by decide +kernel
theorem w_oii : (.instanceMethod Lib.objectInit : Jvm.Cond) ∈ ALLG := mem_allg (wsAt_mem w_oi (List.mem_of_getElem? (i := 0) rfl)) rfl
theorem w_oic : (.code Lib.objectInit ⟨#[0xb1]⟩ 1 none : Jvm.Cond) ∈ ALLG := mem_allg (wsAt_mem w_oi (List.mem_of_getElem? (i := 1) rfl)) rfl
theorem w_acn : (.native arraycopyName : Jvm.Cond) ∈ ALLG := mem_allg (wsAt_mem w_oi (List.mem_of_getElem? (i := 2) rfl)) rfl
theorem w_acs : (.static arraycopyName : Jvm.Cond) ∈ ALLG := mem_allg (wsAt_mem w_oi (List.mem_of_getElem? (i := 3) rfl)) rfl
theorem w_mxs : (.static Lib.Math.max.name : Jvm.Cond) ∈ ALLG := mem_allg (wsAt_mem w_oi (List.mem_of_getElem? (i := 4) rfl)) rfl
theorem w_mxc : (.code Lib.Math.max.name Lib.Math.max.code 2 (some .int) : Jvm.Cond) ∈ ALLG := mem_allg (wsAt_mem w_oi (List.mem_of_getElem? (i := 5) rfl)) rfl
theorem w_mns : (.static Lib.Math.min.name : Jvm.Cond) ∈ ALLG := mem_allg (wsAt_mem w_oi (List.mem_of_getElem? (i := 6) rfl)) rfl
theorem w_mnc : (.code Lib.Math.min.name Lib.Math.min.code 2 (some .int) : Jvm.Cond) ∈ ALLG := mem_allg (wsAt_mem w_oi (List.mem_of_getElem? (i := 7) rfl)) rfl
theorem w_ai : Jvm.Cond.arrayClass .int ∈ ALLG := mem_allg (List.mem_of_getElem? (i := 107) (by decide +kernel)) rfl
theorem w_al : Jvm.Cond.arrayClass .long ∈ ALLG := mem_allg (List.mem_of_getElem? (i := 295) (by decide +kernel)) rfl
theorem lay_0 : wsAt ((u_ws RX0 TX0 9).zip [243, 245, 247, 249, 251, 253, 255, 257, 259]) = true := by decide +kernel
theorem lay_in_0 : ∀ w ∈ u_ws RX0 TX0 9, w ∈ lw_tbl := by
  intro w hw
  obtain ⟨i, hi⟩ := List.getElem?_of_mem hw
  obtain ⟨y, hy⟩ := zip_at (m := [243, 245, 247, 249, 251, 253, 255, 257, 259]) (by rfl) hi
  exact wsAt_mem lay_0 hy
theorem lay_1 : wsAt ((u_ws RX1 TX1 1).zip [292]) = true := by decide +kernel
theorem lay_in_1 : ∀ w ∈ u_ws RX1 TX1 1, w ∈ lw_tbl := by
  intro w hw
  obtain ⟨i, hi⟩ := List.getElem?_of_mem hw
  obtain ⟨y, hy⟩ := zip_at (m := [292]) (by rfl) hi
  exact wsAt_mem lay_1 hy
theorem lay_2 : wsAt ((u_ws RX2 TX2 10).zip [171, 173, 175, 177, 179, 181, 183, 185, 187, 189]) = true := by decide +kernel
theorem lay_in_2 : ∀ w ∈ u_ws RX2 TX2 10, w ∈ lw_tbl := by
  intro w hw
  obtain ⟨i, hi⟩ := List.getElem?_of_mem hw
  obtain ⟨y, hy⟩ := zip_at (m := [171, 173, 175, 177, 179, 181, 183, 185, 187, 189]) (by rfl) hi
  exact wsAt_mem lay_2 hy
theorem lay_3 : wsAt ((u_ws RX3 TX3 2).zip [201, 203]) = true := by decide +kernel
theorem lay_in_3 : ∀ w ∈ u_ws RX3 TX3 2, w ∈ lw_tbl := by
  intro w hw
  obtain ⟨i, hi⟩ := List.getElem?_of_mem hw
  obtain ⟨y, hy⟩ := zip_at (m := [201, 203]) (by rfl) hi
  exact wsAt_mem lay_3 hy
theorem lay_4 : wsAt ((u_ws RX4 TX4 5).zip [125, 127, 129, 131, 133]) = true := by decide +kernel
theorem lay_in_4 : ∀ w ∈ u_ws RX4 TX4 5, w ∈ lw_tbl := by
  intro w hw
  obtain ⟨i, hi⟩ := List.getElem?_of_mem hw
  obtain ⟨y, hy⟩ := zip_at (m := [125, 127, 129, 131, 133]) (by rfl) hi
  exact wsAt_mem lay_4 hy
theorem lay_5 : wsAt ((u_ws RX5 TX5 2).zip [219, 221]) = true := by decide +kernel
theorem lay_in_5 : ∀ w ∈ u_ws RX5 TX5 2, w ∈ lw_tbl := by
  intro w hw
  obtain ⟨i, hi⟩ := List.getElem?_of_mem hw
  obtain ⟨y, hy⟩ := zip_at (m := [219, 221]) (by rfl) hi
  exact wsAt_mem lay_5 hy
theorem lay_6 : wsAt ((u_ws RX6 TX6 8).zip [312, 314, 316, 318, 320, 322, 324, 326]) = true := by decide +kernel
theorem lay_in_6 : ∀ w ∈ u_ws RX6 TX6 8, w ∈ lw_tbl := by
  intro w hw
  obtain ⟨i, hi⟩ := List.getElem?_of_mem hw
  obtain ⟨y, hy⟩ := zip_at (m := [312, 314, 316, 318, 320, 322, 324, 326]) (by rfl) hi
  exact wsAt_mem lay_6 hy
theorem lay_7 : wsAt ((u_ws RX7 TX7 5).zip [96, 98, 100, 102, 104]) = true := by decide +kernel
theorem lay_in_7 : ∀ w ∈ u_ws RX7 TX7 5, w ∈ lw_tbl := by
  intro w hw
  obtain ⟨i, hi⟩ := List.getElem?_of_mem hw
  obtain ⟨y, hy⟩ := zip_at (m := [96, 98, 100, 102, 104]) (by rfl) hi
  exact wsAt_mem lay_7 hy
theorem lay_8 : wsAt ((u_ws RX8 TX8 2).zip [272, 274]) = true := by decide +kernel
theorem lay_in_8 : ∀ w ∈ u_ws RX8 TX8 2, w ∈ lw_tbl := by
  intro w hw
  obtain ⟨i, hi⟩ := List.getElem?_of_mem hw
  obtain ⟨y, hy⟩ := zip_at (m := [272, 274]) (by rfl) hi
  exact wsAt_mem lay_8 hy
theorem lay_9 : wsAt ((u_ws RX9 TX9 10).zip [339, 341, 343, 345, 347, 349, 351, 353, 355, 357]) = true := by decide +kernel
theorem lay_in_9 : ∀ w ∈ u_ws RX9 TX9 10, w ∈ lw_tbl := by
  intro w hw
  obtain ⟨i, hi⟩ := List.getElem?_of_mem hw
  obtain ⟨y, hy⟩ := zip_at (m := [339, 341, 343, 345, 347, 349, 351, 353, 355, 357]) (by rfl) hi
  exact wsAt_mem lay_9 hy
theorem lay_10 : wsAt ((u_ws RX10 TX10 41).zip [892, 894, 896, 898, 900, 902, 904, 906, 908, 910, 912, 914, 916, 918, 920, 922, 924, 926, 928, 930, 932, 934, 936, 938, 940, 942, 944, 946, 948, 950, 952, 954, 956, 958, 960, 962, 964, 966, 968, 970, 972]) = true := by decide +kernel
theorem lay_in_10 : ∀ w ∈ u_ws RX10 TX10 41, w ∈ lw_tbl := by
  intro w hw
  obtain ⟨i, hi⟩ := List.getElem?_of_mem hw
  obtain ⟨y, hy⟩ := zip_at (m := [892, 894, 896, 898, 900, 902, 904, 906, 908, 910, 912, 914, 916, 918, 920, 922, 924, 926, 928, 930, 932, 934, 936, 938, 940, 942, 944, 946, 948, 950, 952, 954, 956, 958, 960, 962, 964, 966, 968, 970, 972]) (by rfl) hi
  exact wsAt_mem lay_10 hy
theorem lay_nest (C : String) (T : u_T) (N : Nat) : ∀ w ∈ u_ws C T N, goodWord w = true := by
  intro w hw
  obtain ⟨k, -, rfl⟩ := List.mem_map.mp hw
  unfold u_lay
  split <;> rfl
theorem lay_ok {ci : Nat} (h : ci < 11) : ∀ w ∈ u_ws (clI ci).1 (clI ci).2.1 (clI ci).2.2, w ∈ ALLG := by
  intro w hw
  refine mem_allg ?_ (lay_nest _ _ _ w hw)
  match ci, h with
  | 0, _ => exact lay_in_0 w hw
  | 1, _ => exact lay_in_1 w hw
  | 2, _ => exact lay_in_2 w hw
  | 3, _ => exact lay_in_3 w hw
  | 4, _ => exact lay_in_4 w hw
  | 5, _ => exact lay_in_5 w hw
  | 6, _ => exact lay_in_6 w hw
  | 7, _ => exact lay_in_7 w hw
  | 8, _ => exact lay_in_8 w hw
  | 9, _ => exact lay_in_9 w hw
  | 10, _ => exact lay_in_10 w hw
theorem cl_nm {ci : Nat} (h : ci < 11) : ∀ a, a < (clI ci).2.2 → ∀ b, b < (clI ci).2.2 → a ≠ b → ((clI ci).2.1 a).2.1 ≠ ((clI ci).2.1 b).2.1 := by
  match ci, h with
  | 0, _ => exact nmX0
  | 1, _ => exact nmX1
  | 2, _ => exact nmX2
  | 3, _ => exact nmX3
  | 4, _ => exact nmX4
  | 5, _ => exact nmX5
  | 6, _ => exact nmX6
  | 7, _ => exact nmX7
  | 8, _ => exact nmX8
  | 9, _ => exact nmX9
  | 10, _ => exact nmX10
theorem cl_ty {ci : Nat} (h : ci < 11) : ∀ k, k < (clI ci).2.2 → parseFieldDescriptor ((clI ci).2.1 k).2.2.1 = some (clTy ci k) := by
  match ci, h with
  | 0, _ => exact tyX0_ok
  | 1, _ => exact tyX1_ok
  | 2, _ => exact tyX2_ok
  | 3, _ => exact tyX3_ok
  | 4, _ => exact tyX4_ok
  | 5, _ => exact tyX5_ok
  | 6, _ => exact tyX6_ok
  | 7, _ => exact tyX7_ok
  | 8, _ => exact tyX8_ok
  | 9, _ => exact tyX9_ok
  | 10, _ => exact tyX10_ok
theorem cl_at {ci : Nat} (h : ci < 11) : vwCl[ci]? = some ((clI ci).1, (clI ci).2.1, (clI ci).2.2) := by
  match ci, h with
  | 0, _ => rfl
  | 1, _ => rfl
  | 2, _ => rfl
  | 3, _ => rfl
  | 4, _ => rfl
  | 5, _ => rfl
  | 6, _ => rfl
  | 7, _ => rfl
  | 8, _ => rfl
  | 9, _ => rfl
  | 10, _ => rfl
theorem fl_ci : FL.all (fun e => decide (e.2.2.1 < 11)) = true := by decide +kernel
theorem cl_ci : CL.all (fun e => decide (e.2.2 < 11)) = true := by decide +kernel
