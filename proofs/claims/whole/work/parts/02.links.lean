def mgood (i : Nat) (w : Cond) : Prop := lw_tbl[i]? = some w ∧ goodWord w = true
-- the fields that a class names: class, entry, the field's class, its place, the word's place
def mFL : List (Nat × Nat × Nat × Nat × Nat) := [(4, 9, 4, 0, 87), (0, 151, 4, 0, 88), (1, 202, 4, 0, 89), (4, 15, 4, 1, 90), (0, 183, 4, 1, 91), (1, 210, 4, 1, 92), (4, 19, 4, 2, 93), (4, 22, 4, 3, 94), (2, 9, 2, 0, 111), (0, 90, 2, 0, 112), (2, 15, 2, 1, 113), (0, 93, 2, 1, 114), (1, 135, 2, 1, 115), (2, 18, 2, 2, 116), (0, 96, 2, 2, 117), (2, 21, 2, 3, 118), (0, 99, 2, 3, 119), (2, 24, 2, 4, 120), (0, 72, 2, 4, 121), (1, 118, 2, 4, 122), (2, 27, 2, 5, 123), (1, 115, 2, 5, 124), (0, 102, 2, 5, 125), (2, 30, 2, 6, 126), (1, 108, 2, 6, 127), (0, 105, 2, 6, 128), (2, 34, 2, 7, 129), (1, 128, 2, 7, 130), (0, 108, 2, 7, 131), (2, 37, 2, 8, 132), (4, 46, 2, 8, 133), (0, 111, 2, 8, 134), (1, 154, 2, 8, 135), (2, 41, 2, 9, 136), (0, 114, 2, 9, 137), (4, 61, 2, 9, 138), (1, 9, 1, 0, 160), (1, 15, 1, 1, 161), (0, 54, 1, 1, 162), (1, 18, 1, 2, 163), (0, 58, 1, 2, 164), (1, 21, 1, 3, 165), (0, 84, 1, 3, 166), (1, 24, 1, 4, 167), (0, 87, 1, 4, 168), (1, 28, 1, 5, 169), (0, 78, 1, 5, 170), (1, 31, 1, 6, 171), (0, 81, 1, 6, 172), (1, 34, 1, 7, 173), (0, 263, 1, 7, 174), (1, 39, 1, 8, 175), (0, 68, 1, 8, 176), (1, 43, 1, 9, 177), (0, 176, 1, 9, 178), (1, 46, 1, 10, 179), (1, 49, 1, 11, 180), (0, 123, 1, 11, 181), (1, 56, 1, 12, 182), (0, 147, 1, 12, 183), (1, 60, 1, 13, 184), (0, 144, 1, 13, 185), (1, 63, 1, 14, 186), (0, 137, 1, 14, 187), (1, 66, 1, 15, 188), (1, 69, 1, 16, 189), (3, 9, 3, 0, 232), (0, 273, 3, 0, 233), (3, 15, 3, 1, 234), (1, 223, 3, 1, 235), (3, 18, 3, 2, 236), (1, 228, 3, 2, 237), (0, 276, 3, 2, 238), (0, 12, 0, 0, 246), (0, 18, 0, 1, 247), (0, 21, 0, 2, 248), (0, 24, 0, 3, 249), (0, 30, 0, 4, 250), (5, 11, 5, 0, 677), (5, 15, 5, 1, 678), (5, 18, 5, 2, 679), (5, 302, 5, 3, 680), (5, 21, 5, 4, 681), (5, 157, 5, 5, 682), (5, 192, 5, 6, 683), (5, 196, 5, 7, 684), (5, 264, 5, 8, 685), (5, 24, 5, 9, 686), (5, 28, 5, 10, 687), (5, 31, 5, 11, 688), (5, 274, 5, 12, 689), (5, 277, 5, 13, 690), (5, 280, 5, 14, 691)]
set_option maxRecDepth 100000 in
theorem mFL_ok : ∀ e ∈ mFL, lw_tbl[e.2.2.2.2]? = some (.fieldLink (mcn e.1) e.2.1 (mT e.2.2.1 e.2.2.2.1).1 (mT e.2.2.1 e.2.2.2.1).2.1 (mT e.2.2.1 e.2.2.2.1).2.2.1) ∧ e.2.2.1 < 6 ∧ e.2.2.2.1 < mnf e.2.2.1 := by decide +kernel
def mfl (o i : Nat) : Option (Nat × Nat × Nat) := (mFL.find? (fun e => e.1 == o && e.2.1 == i)).map (fun e => e.2.2)
-- the methods that a class names: class, entry, the kind of call, the method, the word's place
def mML : List (Nat × Nat × Nat × Nat × Nat) := [(10, 9, 2, 0, 67), (0, 3, 13, 0, 70), (0, 11, 2, 40, 75), (1, 3, 13, 0, 78), (1, 55, 2, 78, 83), (4, 3, 13, 0, 86), (1, 73, 5, 66, 107), (2, 3, 13, 0, 110), (0, 34, 5, 73, 228), (3, 3, 13, 0, 231), (10, 13, 0, 1, 262), (0, 35, 1, 34, 266), (0, 40, 1, 33, 269), (0, 44, 0, 42, 273), (0, 47, 0, 43, 277), (1, 87, 0, 80, 281), (4, 31, 0, 82, 285), (4, 40, 1, 182, 289), (4, 43, 1, 183, 294), (10, 18, 0, 2, 297), (0, 51, 1, 35, 301), (10, 23, 0, 3, 304), (0, 61, 0, 45, 308), (1, 95, 4, 36, 312), (1, 99, 4, 35, 315), (1, 102, 4, 34, 316), (1, 91, 4, 33, 317), (1, 105, 0, 67, 318), (2, 44, 0, 71, 322), (2, 65, 10, 0, 326), (2, 70, 11, 0, 329), (2, 48, 0, 72, 332), (10, 28, 0, 4, 336), (0, 65, 0, 44, 340), (10, 32, 0, 5, 344), (10, 36, 0, 6, 348), (10, 41, 0, 7, 352), (10, 45, 0, 8, 356), (10, 49, 0, 9, 360), (0, 117, 1, 36, 364), (0, 120, 0, 70, 365), (2, 58, 4, 36, 369), (10, 53, 0, 10, 372), (0, 126, 0, 46, 376), (1, 111, 4, 39, 380), (1, 121, 0, 81, 384), (4, 34, 1, 184, 388), (1, 124, 0, 89, 391), (10, 57, 0, 11, 395), (0, 130, 0, 48, 399), (1, 131, 0, 69, 403), (1, 138, 0, 49, 407), (0, 133, 0, 50, 411), (1, 141, 0, 83, 415), (4, 52, 0, 81, 419), (10, 61, 0, 12, 420), (0, 140, 0, 47, 424), (10, 66, 0, 13, 428), (10, 70, 0, 14, 432), (10, 75, 0, 15, 437), (0, 159, 0, 84, 441), (4, 55, 1, 185, 445), (6, 17, 1, 184, 449), (0, 163, 0, 85, 450), (0, 167, 0, 86, 455), (0, 170, 1, 185, 459), (0, 179, 0, 87, 460), (0, 187, 0, 88, 464), (0, 192, 1, 183, 469), (10, 80, 0, 16, 470), (0, 196, 0, 89, 474), (10, 84, 0, 17, 475), (0, 199, 0, 79, 479), (4, 25, 9, 0, 483), (0, 203, 0, 83, 486), (10, 89, 0, 18, 487), (0, 207, 0, 52, 491), (1, 161, 0, 87, 495), (1, 166, 1, 186, 497), (1, 171, 0, 53, 503), (1, 174, 0, 54, 507), (1, 178, 1, 182, 511), (10, 93, 0, 19, 512), (0, 210, 0, 55, 516), (1, 184, 0, 52, 520), (10, 97, 0, 20, 521), (0, 213, 0, 56, 525), (1, 187, 0, 57, 529), (1, 190, 0, 58, 533), (1, 207, 1, 183, 538), (1, 193, 0, 59, 539), (1, 214, 0, 85, 543), (1, 220, 0, 86, 545), (1, 196, 0, 60, 546), (1, 199, 0, 61, 550), (10, 101, 0, 21, 554), (0, 216, 0, 57, 558), (10, 105, 0, 22, 559), (0, 219, 0, 51, 563), (1, 145, 0, 41, 567), (1, 74, 9, 0, 571), (1, 80, 0, 68, 572), (2, 52, 9, 0, 576), (1, 84, 0, 79, 577), (1, 148, 0, 56, 578), (1, 151, 0, 55, 579), (1, 157, 0, 50, 580), (10, 109, 0, 23, 581), (0, 223, 12, 0, 585), (10, 113, 0, 24, 588), (0, 228, 1, 37, 592), (0, 231, 0, 74, 595), (0, 235, 0, 62, 599), (0, 239, 0, 64, 603), (1, 234, 0, 63, 607), (1, 230, 0, 71, 611), (0, 243, 0, 63, 612), (0, 247, 0, 65, 613), (10, 117, 0, 25, 617), (0, 251, 0, 75, 621), (3, 22, 4, 33, 625), (0, 254, 0, 77, 626), (3, 26, 0, 76, 630), (10, 121, 0, 26, 634), (0, 257, 0, 41, 638), (10, 125, 0, 27, 639), (10, 129, 0, 28, 643), (0, 260, 0, 49, 647), (10, 133, 0, 29, 648), (0, 266, 1, 38, 652), (10, 137, 0, 30, 655), (0, 269, 0, 76, 659), (10, 141, 0, 31, 660), (0, 278, 9, 0, 664), (10, 146, 0, 32, 665), (10, 12, 2, 90, 671), (5, 5, 13, 0, 674), (10, 17, 0, 101, 723), (5, 44, 1, 96, 727), (5, 38, 1, 91, 730), (5, 50, 0, 93, 734), (10, 22, 0, 102, 738), (5, 54, 1, 97, 742), (10, 27, 0, 105, 746), (5, 67, 1, 103, 750), (5, 71, 0, 104, 755), (5, 63, 0, 98, 760), (10, 31, 0, 106, 764), (5, 75, 0, 95, 768), (5, 78, 0, 94, 772), (10, 35, 0, 108, 776), (5, 88, 1, 107, 780), (10, 40, 0, 109, 786), (10, 48, 0, 114, 791), (5, 109, 0, 112, 795), (5, 106, 1, 111, 799), (5, 102, 1, 110, 802), (5, 94, 11, 0, 805), (5, 99, 10, 0, 806), (5, 112, 0, 113, 807), (10, 52, 0, 116, 811), (5, 115, 1, 115, 815), (10, 56, 0, 121, 818), (5, 129, 0, 129, 822), (5, 151, 1, 128, 826), (5, 133, 1, 100, 830), (10, 60, 0, 123, 833), (5, 125, 1, 99, 837), (5, 136, 0, 119, 840), (5, 118, 0, 117, 844), (5, 122, 0, 118, 848), (5, 139, 0, 120, 852), (5, 142, 0, 122, 856), (10, 65, 0, 124, 860), (10, 69, 0, 125, 864), (10, 44, 0, 127, 868), (5, 148, 0, 126, 873), (10, 74, 0, 135, 877), (5, 173, 0, 134, 882), (5, 167, 0, 133, 886), (5, 164, 0, 132, 890), (5, 161, 0, 130, 894), (10, 83, 0, 137, 899), (5, 176, 0, 136, 903), (10, 79, 0, 146, 907), (5, 217, 0, 145, 914), (5, 199, 0, 143, 918), (5, 182, 0, 138, 922), (5, 179, 0, 131, 926), (5, 186, 0, 139, 930), (5, 189, 0, 140, 934), (5, 202, 0, 141, 938), (5, 206, 0, 142, 942), (5, 220, 0, 144, 947), (10, 88, 0, 147, 951), (10, 92, 0, 151, 955), (5, 231, 0, 150, 959), (5, 225, 0, 148, 964), (5, 228, 0, 149, 968), (10, 96, 0, 153, 972), (5, 234, 0, 152, 976), (10, 104, 0, 159, 980), (5, 251, 0, 158, 984), (5, 239, 0, 154, 988), (5, 242, 0, 155, 993), (5, 245, 0, 156, 997), (5, 248, 0, 157, 1001), (10, 100, 0, 161, 1005), (5, 254, 0, 160, 1009), (10, 108, 0, 163, 1013), (5, 268, 0, 162, 1017), (5, 257, 1, 92, 1021), (5, 261, 0, 137, 1024), (10, 112, 0, 164, 1025), (5, 271, 12, 0, 1029), (10, 116, 0, 172, 1030), (5, 290, 1, 165, 1034), (5, 293, 0, 169, 1037), (5, 287, 0, 168, 1041), (5, 283, 0, 167, 1045), (5, 296, 0, 170, 1049), (5, 299, 0, 171, 1053), (10, 120, 0, 173, 1057), (10, 124, 0, 174, 1061), (10, 128, 0, 175, 1065), (10, 132, 0, 176, 1069), (10, 136, 0, 177, 1077), (10, 140, 0, 178, 1081), (5, 313, 0, 166, 1085), (10, 145, 0, 179, 1089), (10, 149, 0, 181, 1093), (5, 317, 0, 180, 1097)]
def mlw (o i k j : Nat) : Cond := match k with
  | 0 | 1 | 2 => .methodLink (mcn o) i (mmn j)
  | 4 | 5 => .methodLinkNest (mcn o) i (mmn j) "ShadowTester"
  | 9 => .methodLink (mcn o) i arraycopyName
  | 10 => .methodLink (mcn o) i Lib.Math.max.name
  | 11 => .methodLink (mcn o) i Lib.Math.min.name
  | 12 => .methodLink (mcn o) i Lib.Math.abs.name
  | _ => .methodLink (mcn o) i Lib.objectInit
set_option maxRecDepth 100000 in
theorem mML_ok : ∀ e ∈ mML, lw_tbl[e.2.2.2.2]? = some (mlw e.1 e.2.1 e.2.2.1 e.2.2.2.1) ∧ (e.2.2.1 ≤ 5 → mok e.2.2.2.1 = true) := by decide +kernel
def mml_ (o i : Nat) : Option (Nat × Nat × Nat) := (mML.find? (fun e => e.1 == o && e.2.1 == i)).map (fun e => e.2.2)
def mKI : List (Nat × Nat × Int32 × Nat) := [(0, 39, 2000000000, 272), (0, 284, 1103515245, 383), (7, 265, 1431655765, 500), (7, 266, 858993459, 501), (7, 267, 252645135, 502), (5, 132, 1103515245, 829)]
set_option maxRecDepth 100000 in
theorem mKI_ok : ∀ e ∈ mKI, lw_tbl[e.2.2.2]? = some (.constant (mcn e.1) e.2.1 e.2.2.1) := by decide +kernel
def mki (o i : Nat) : Option Int32 := (mKI.find? (fun e => e.1 == o && e.2.1 == i)).map (fun e => e.2.2.1)
def mKJ : List (Nat × Nat × Int64 × Nat) := [(6, 11, 9223372036854775807, 292), (6, 13, -1, 293), (0, 157, -9223372036854775808, 436), (6, 15, -9223372036854775808, 448), (4, 59, -1, 454), (0, 190, 16, 468), (1, 164, -1, 496), (1, 205, 100, 537), (1, 218, 10, 544), (5, 34, 8, 675), (5, 36, 4, 676), (5, 48, 2000000000, 733), (5, 42, 2, 745), (5, 57, 5, 753), (5, 59, 3, 754), (5, 61, 10, 759), (5, 82, 9, 783), (5, 84, 14, 784), (5, 86, 99, 785), (5, 92, 31, 790), (5, 146, 7, 872), (5, 171, -9223372036854775808, 881), (5, 155, 9223372036854775807, 898), (5, 211, 17, 911), (5, 213, 20, 912), (5, 215, 27, 913), (5, 209, 16, 946), (5, 223, -1, 963), (5, 237, 100, 992), (5, 305, 12, 1073), (5, 307, 22, 1074), (5, 309, 30, 1075), (5, 311, 34, 1076)]
set_option maxRecDepth 100000 in
theorem mKJ_ok : ∀ e ∈ mKJ, lw_tbl[e.2.2.2]? = some (.constantLong (mcn e.1) e.2.1 e.2.2.1) := by decide +kernel
def mkj (o i : Nat) : Option Int64 := (mKJ.find? (fun e => e.1 == o && e.2.1 == i)).map (fun e => e.2.2.1)
def mCL : List (Nat × Nat × Nat × Nat) := [(10, 7, 0, 65), (0, 9, 1, 73), (1, 37, 2, 79), (1, 53, 4, 81), (0, 28, 3, 225), (10, 10, 5, 669)]
set_option maxRecDepth 100000 in
theorem mCL_ok : ∀ e ∈ mCL, lw_tbl[e.2.2.2]? = some (.classLink (mcn e.1) e.2.1 (mcn e.2.2.1)) ∧ e.2.2.1 < 6 := by decide +kernel
def mck (o i : Nat) : Option Nat := (mCL.find? (fun e => e.1 == o && e.2.1 == i)).map (fun e => e.2.2.1)
set_option maxRecDepth 100000 in
theorem mSF_ok : lw_tbl[370]? = some (.fieldLink (mcn 2) 62 "ShadowTester$Item" "ABOVE" "[I") := by decide +kernel
def msf (o i : Nat) : Bool := o == 2 && i == 62
def gws : List Cond := lw_tbl.filter goodWord
theorem gws_of {i : Nat} {w : Cond} (h : lw_tbl[i]? = some w) (hg : goodWord w = true) : w ∈ gws := List.mem_filter.mpr ⟨List.mem_of_getElem? h, hg⟩
theorem gws_tbl {w : Cond} (h : w ∈ gws) : w ∈ lw_tbl := (List.mem_filter.mp h).1
theorem gws_good {big : List Cond} (hb : ∀ w ∈ gws, w ∈ big) : GoodIn big gws := fun w h => ⟨hb w h, good_of_word (List.mem_filter.mp h).2⟩
theorem mLY0 : ∀ w ∈ u_ws "ShadowTester" mT0 5, w ∈ gws := by
  have h : u_ws "ShadowTester" mT0 5 = [251, 253, 255, 257, 259].filterMap (fun i => lw_tbl[i]?) := by decide +kernel
  have hg : (u_ws "ShadowTester" mT0 5).all goodWord = true := by decide +kernel
  intro w hw
  refine List.mem_filter.mpr ⟨?_, List.all_eq_true.mp hg w hw⟩
  rw [h] at hw
  obtain ⟨i, -, hi⟩ := List.mem_filterMap.mp hw
  exact List.mem_of_getElem? hi
theorem mIN0 : Cond.instantiable "ShadowTester" 5 ∈ gws := gws_of (i := 66) (by decide +kernel) rfl
theorem mIT0 : Cond.initialized "ShadowTester" ∈ gws := gws_of (i := 55) (by decide +kernel) rfl
theorem mLY1 : ∀ w ∈ u_ws "ShadowTester$Course" mT1 17, w ∈ gws := by
  have h : u_ws "ShadowTester$Course" mT1 17 = [190, 192, 194, 196, 198, 200, 202, 204, 206, 208, 210, 212, 214, 216, 218, 220, 222].filterMap (fun i => lw_tbl[i]?) := by decide +kernel
  have hg : (u_ws "ShadowTester$Course" mT1 17).all goodWord = true := by decide +kernel
  intro w hw
  refine List.mem_filter.mpr ⟨?_, List.all_eq_true.mp hg w hw⟩
  rw [h] at hw
  obtain ⟨i, -, hi⟩ := List.mem_filterMap.mp hw
  exact List.mem_of_getElem? hi
theorem mIN1 : Cond.instantiable "ShadowTester$Course" 17 ∈ gws := gws_of (i := 74) (by decide +kernel) rfl
theorem mIT1 : Cond.initialized "ShadowTester$Course" ∈ gws := gws_of (i := 56) (by decide +kernel) rfl
theorem mLY2 : ∀ w ∈ u_ws "ShadowTester$Item" mT2 10, w ∈ gws := by
  have h : u_ws "ShadowTester$Item" mT2 10 = [139, 141, 143, 145, 147, 149, 151, 153, 155, 157].filterMap (fun i => lw_tbl[i]?) := by decide +kernel
  have hg : (u_ws "ShadowTester$Item" mT2 10).all goodWord = true := by decide +kernel
  intro w hw
  refine List.mem_filter.mpr ⟨?_, List.all_eq_true.mp hg w hw⟩
  rw [h] at hw
  obtain ⟨i, -, hi⟩ := List.mem_filterMap.mp hw
  exact List.mem_of_getElem? hi
theorem mIN2 : Cond.instantiable "ShadowTester$Item" 10 ∈ gws := gws_of (i := 106) (by decide +kernel) rfl
theorem mIT2 : Cond.initialized "ShadowTester$Item" ∈ gws := gws_of (i := 58) (by decide +kernel) rfl
theorem mLY3 : ∀ w ∈ u_ws "ShadowTester$Sheet" mT3 3, w ∈ gws := by
  have h : u_ws "ShadowTester$Sheet" mT3 3 = [239, 241, 243].filterMap (fun i => lw_tbl[i]?) := by decide +kernel
  have hg : (u_ws "ShadowTester$Sheet" mT3 3).all goodWord = true := by decide +kernel
  intro w hw
  refine List.mem_filter.mpr ⟨?_, List.all_eq_true.mp hg w hw⟩
  rw [h] at hw
  obtain ⟨i, -, hi⟩ := List.mem_filterMap.mp hw
  exact List.mem_of_getElem? hi
theorem mIN3 : Cond.instantiable "ShadowTester$Sheet" 3 ∈ gws := gws_of (i := 227) (by decide +kernel) rfl
theorem mIT3 : Cond.initialized "ShadowTester$Sheet" ∈ gws := gws_of (i := 59) (by decide +kernel) rfl
theorem mLY4 : ∀ w ∈ u_ws "ShadowTester$Weights" mT4 4, w ∈ gws := by
  have h : u_ws "ShadowTester$Weights" mT4 4 = [95, 97, 99, 101].filterMap (fun i => lw_tbl[i]?) := by decide +kernel
  have hg : (u_ws "ShadowTester$Weights" mT4 4).all goodWord = true := by decide +kernel
  intro w hw
  refine List.mem_filter.mpr ⟨?_, List.all_eq_true.mp hg w hw⟩
  rw [h] at hw
  obtain ⟨i, -, hi⟩ := List.mem_filterMap.mp hw
  exact List.mem_of_getElem? hi
theorem mIN4 : Cond.instantiable "ShadowTester$Weights" 4 ∈ gws := gws_of (i := 82) (by decide +kernel) rfl
theorem mIT4 : Cond.initialized "ShadowTester$Weights" ∈ gws := gws_of (i := 57) (by decide +kernel) rfl
theorem mLY5 : ∀ w ∈ u_ws "ShadowTesterModel" mT5 15, w ∈ gws := by
  have h : u_ws "ShadowTesterModel" mT5 15 = [692, 694, 696, 698, 700, 702, 704, 706, 708, 710, 712, 714, 716, 718, 720].filterMap (fun i => lw_tbl[i]?) := by decide +kernel
  have hg : (u_ws "ShadowTesterModel" mT5 15).all goodWord = true := by decide +kernel
  intro w hw
  refine List.mem_filter.mpr ⟨?_, List.all_eq_true.mp hg w hw⟩
  rw [h] at hw
  obtain ⟨i, -, hi⟩ := List.mem_filterMap.mp hw
  exact List.mem_of_getElem? hi
theorem mIN5 : Cond.instantiable "ShadowTesterModel" 15 ∈ gws := gws_of (i := 670) (by decide +kernel) rfl
theorem mIT5 : Cond.initialized "ShadowTesterModel" ∈ gws := gws_of (i := 60) (by decide +kernel) rfl
theorem mAC_i : Cond.arrayClass .int ∈ gws := gws_of (i := 104) (by decide +kernel) rfl
theorem mAC_j : Cond.arrayClass .long ∈ gws := gws_of (i := 105) (by decide +kernel) rfl
theorem mAO_i : Cond.arrayOver (.object "ShadowTester$Item") ∈ lw_tbl := List.mem_of_getElem? (i := 80) (by decide +kernel)
theorem mAO_s : Cond.arrayOver (.object "ShadowTester$Sheet") ∈ lw_tbl := List.mem_of_getElem? (i := 226) (by decide +kernel)
theorem mSY1 : Cond.native arraycopyName ∈ gws := gws_of (i := 485) (by decide +kernel) rfl
theorem mSY2 : Cond.static arraycopyName ∈ gws := gws_of (i := 484) (by decide +kernel) rfl
theorem mSY3 : Cond.initialized "java/lang/System" ∈ gws := gws_of (i := 63) (by decide +kernel) rfl
theorem mMA_max1 : Cond.static Lib.Math.max.name ∈ gws := gws_of (i := 327) (by decide +kernel) rfl
theorem mMA_max2 : Cond.code Lib.Math.max.name Lib.Math.max.code 2 (some .int) ∈ gws := gws_of (i := 328) (by decide +kernel) rfl
theorem mMA_min1 : Cond.static Lib.Math.min.name ∈ gws := gws_of (i := 330) (by decide +kernel) rfl
theorem mMA_min2 : Cond.code Lib.Math.min.name Lib.Math.min.code 2 (some .int) ∈ gws := gws_of (i := 331) (by decide +kernel) rfl
theorem mMA_abs1 : Cond.static Lib.Math.abs.name ∈ gws := gws_of (i := 586) (by decide +kernel) rfl
theorem mMA_abs2 : Cond.code Lib.Math.abs.name Lib.Math.abs.code 1 (some .int) ∈ gws := gws_of (i := 587) (by decide +kernel) rfl
theorem mMA_i : Cond.initialized "java/lang/Math" ∈ gws := gws_of (i := 62) (by decide +kernel) rfl
theorem mOB1 : Cond.instanceMethod Lib.objectInit ∈ gws := gws_of (i := 71) (by decide +kernel) rfl
theorem mOB2 : Cond.code Lib.objectInit ⟨#[0xb1]⟩ 1 none ∈ gws := gws_of (i := 72) (by decide +kernel) rfl
theorem mLS : Cond.laysStatic "ShadowTester$Item" "ABOVE" "[I" ∈ lw_tbl := List.mem_of_getElem? (i := 371) (by decide +kernel)
