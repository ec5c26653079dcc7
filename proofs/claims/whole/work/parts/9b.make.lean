/-! WHAT THE LAW MAKES FIRST: both sides, new -/
def hp0 : Hp := (([], 0), fun _ => 0, fun _ => 0, fun _ _ => none, fun _ _ => 0, fun _ _ => 0)
def hp1 : Hp := pN hp0 8 0
def hp2 : Hp := pN hp1 4 0
def hp3 : Hp := pN hp2 11 1100
def hp4 : Hp := pR hp3 1 0 (some 2)
def hp5 : Hp := pI hp4 1 1 (0)
def hp6 : Hp := pR hp5 0 0 (some 1)
def hp7 : Hp := pN hp6 0 0
def hp8 : Hp := pN hp7 12 11
def hp9 : Hp := pR hp8 3 0 (some 4)
def hp10 : Hp := pN hp9 12 8
def hp11 : Hp := pR hp10 3 6 (some 5)
def hp12 : Hp := pN hp11 12 8
def hp13 : Hp := pR hp12 3 7 (some 6)
def hp14 : Hp := pN hp13 12 8
def hp15 : Hp := pR hp14 3 8 (some 7)
def hp16 : Hp := pN hp15 12 6
def hp17 : Hp := pR hp16 3 9 (some 8)
def hp18 : Hp := pN hp17 12 7
def hp19 : Hp := pR hp18 3 10 (some 9)
def hp20 : Hp := pN hp19 12 49
def hp21 : Hp := pR hp20 3 11 (some 10)
def hp22 : Hp := pN hp21 12 49
def hp23 : Hp := pR hp22 3 12 (some 11)
def hp24 : Hp := pN hp23 12 6
def hp25 : Hp := pR hp24 3 14 (some 12)
def hp26 : Hp := pN hp25 12 6
def hp27 : Hp := pR hp26 3 15 (some 13)
def hp28 : Hp := pN hp27 12 6
def hp29 : Hp := pR hp28 3 16 (some 14)
def hp30 : Hp := pN hp29 12 8
def hp31 : Hp := pR hp30 3 17 (some 15)
def hp32 : Hp := pN hp31 12 8
def hp33 : Hp := pR hp32 3 18 (some 16)
def hp34 : Hp := pN hp33 12 8
def hp35 : Hp := pR hp34 3 19 (some 17)
def hp36 : Hp := pR hp35 0 6 (some 3)
def hp37 : Hp := pN hp36 0 0
def hp38 : Hp := pN hp37 12 11
def hp39 : Hp := pR hp38 18 0 (some 19)
def hp40 : Hp := pN hp39 12 8
def hp41 : Hp := pR hp40 18 6 (some 20)
def hp42 : Hp := pN hp41 12 8
def hp43 : Hp := pR hp42 18 7 (some 21)
def hp44 : Hp := pN hp43 12 8
def hp45 : Hp := pR hp44 18 8 (some 22)
def hp46 : Hp := pN hp45 12 6
def hp47 : Hp := pR hp46 18 9 (some 23)
def hp48 : Hp := pN hp47 12 7
def hp49 : Hp := pR hp48 18 10 (some 24)
def hp50 : Hp := pN hp49 12 49
def hp51 : Hp := pR hp50 18 11 (some 25)
def hp52 : Hp := pN hp51 12 49
def hp53 : Hp := pR hp52 18 12 (some 26)
def hp54 : Hp := pN hp53 12 6
def hp55 : Hp := pR hp54 18 14 (some 27)
def hp56 : Hp := pN hp55 12 6
def hp57 : Hp := pR hp56 18 15 (some 28)
def hp58 : Hp := pN hp57 12 6
def hp59 : Hp := pR hp58 18 16 (some 29)
def hp60 : Hp := pN hp59 12 8
def hp61 : Hp := pR hp60 18 17 (some 30)
def hp62 : Hp := pN hp61 12 8
def hp63 : Hp := pR hp62 18 18 (some 31)
def hp64 : Hp := pN hp63 12 8
def hp65 : Hp := pR hp64 18 19 (some 32)
def hp66 : Hp := pR hp65 0 7 (some 18)
def hp67 : Hp := pN hp66 3 0
def hp68 : Hp := pN hp67 5 0
def hp69 : Hp := pR hp68 34 0 (some 2)
def hp70 : Hp := pI hp69 34 1 (0)
def hp71 : Hp := pI hp70 34 2 (0)
def hp72 : Hp := pI hp71 34 3 (0)
def hp73 : Hp := pI hp72 34 4 (0)
def hp74 : Hp := pR hp73 33 0 (some 34)
def hp75 : Hp := pR hp74 33 5 (some 18)
def hp76 : Hp := pI hp75 33 11 (-1)
def hp77 : Hp := pN hp76 13 33
def hp78 : Hp := pR hp77 33 1 (some 35)
def hp79 : Hp := pN hp78 12 33
def hp80 : Hp := pR hp79 33 2 (some 36)
def hp81 : Hp := pN hp80 12 33
def hp82 : Hp := pR hp81 33 3 (some 37)
def hp83 : Hp := pR hp82 0 1 (some 33)
def hp84 : Hp := pN hp83 2 0
def hp85 : Hp := pR hp84 38 0 (some 3)
def hp86 : Hp := pN hp85 12 8
def hp87 : Hp := pR hp86 38 1 (some 39)
def hp88 : Hp := pN hp87 12 8
def hp89 : Hp := pR hp88 38 2 (some 40)
def hp90 : Hp := pN hp89 12 16
def hp91 : Hp := pR hp90 38 4 (some 41)
def hp92 : Hp := pN hp91 12 16
def hp93 : Hp := pR hp92 38 5 (some 42)
def hp94 : Hp := pN hp93 12 16
def hp95 : Hp := pR hp94 38 6 (some 43)
def hp96 : Hp := pN hp95 12 51
def hp97 : Hp := pR hp96 38 8 (some 44)
def hp98 : Hp := pR hp97 0 2 (some 38)
def hp99 : Hp := pN hp98 7 0
def hp100 : Hp := pR hp99 45 0 (some 3)
def hp101 : Hp := pN hp100 12 7
def hp102 : Hp := pR hp101 45 4 (some 46)
def hp103 : Hp := pN hp102 12 7
def hp104 : Hp := pR hp103 45 5 (some 47)
def hp105 : Hp := pR hp104 0 3 (some 45)
def hp106 : Hp := pN hp105 6 0
def hp107 : Hp := pI hp106 48 0 (0)
def hp108 : Hp := pI hp107 48 1 (0)
def hp109 : Hp := pR hp108 0 4 (some 48)
def hp110 : Hp := pN hp109 1 0
def hp111 : Hp := pI hp110 49 0 (0)
def hp112 : Hp := pI hp111 49 1 (0)
def hp113 : Hp := pI hp112 49 2 (0)
def hp114 : Hp := pR hp113 0 5 (some 49)
def hp115 : Hp := pI hp114 0 8 (0)
def hp116 : Hp := pI hp115 0 9 (0)
def hp117 : Hp := pI hp116 0 10 (-1)
def hp118 : Hp := pN hp117 10 0
def hp119 : Hp := pI hp118 50 2 (-1)
def hp120 : Hp := pN hp119 11 1100
def hp121 : Hp := pR hp120 50 5 (some 51)
def hp122 : Hp := pN hp121 12 17
def hp123 : Hp := pR hp122 50 20 (some 52)
def hp124 : Hp := pN hp123 12 272
def hp125 : Hp := pR hp124 50 21 (some 53)
def hp126 : Hp := pN hp125 12 51
def hp127 : Hp := pR hp126 50 22 (some 54)
def hp128 : Hp := pN hp127 12 7
def hp129 : Hp := pR hp128 50 25 (some 55)
def hp130 : Hp := pN hp129 12 7
def hp131 : Hp := pR hp130 50 26 (some 56)
def hp132 : Hp := pN hp131 12 20
def hp133 : Hp := pR hp132 50 32 (some 57)
def hp134 : Hp := pN hp133 12 4
def hp135 : Hp := pR hp134 50 33 (some 58)
def hp136 : Hp := pN hp135 13 1
theorem k_X4_init_1 : gCi 1 1 1100 yX4_init cX4_init 1 none [.ref 1] hp2 none hp5 := by
  refine g_entry (lv := [.ref 1]) 0 pn_X4 rfl rfl rfl ?_
  refine g_aL0 dX4_init_0 ?_
  refine g_objInit lo_X4_1 im_obj co_obj rfl rfl dX4_init_1 ?_
  refine g_aL0 dX4_init_4 ?_
  refine g_sipush dX4_init_5 ?_
  refine g_newarr (at0 := .byte) (ty := .byte) (kd := 11) (N' := 1100) rfl (Or.inl ⟨rfl, rfl⟩) ar_byte (by decide) rfl (by decide) (by decide) (by decide) dX4_init_8 ?_
  show gY _ _ _ _ _ _ _ _ _ _ _ _ [.ref 2, .ref 1] hp3
  refine g_pR2 lf_X4_9 rfl rfl (by decide +kernel) (by decide +kernel) dX4_init_10 ?_
  show gY _ _ _ _ _ _ _ _ _ _ _ _ [] hp4
  refine g_aL0 dX4_init_13 ?_
  refine g_iconst dX4_init_14 ?_
  refine g_pI0 lf_X4_13 (by decide +kernel) (by decide +kernel) dX4_init_15 ?_
  show gY _ _ _ _ _ _ _ _ _ _ _ _ [] hp5
  exact e_vret rfl dX4_init_18 rfl rfl rfl
theorem k_X0_init_3 : gCi 1 14 188 yX0_init cX0_init 1 none [.ref 3] hp7 none hp35 := by
  refine g_entry (lv := [.ref 3]) 0 pn_X0 rfl rfl rfl ?_
  refine g_aL0 dX0_init_0 ?_
  refine g_objInit lo_X0_3 im_obj co_obj rfl rfl dX0_init_1 ?_
  refine g_aL0 dX0_init_4 ?_
  refine g_bipush dX0_init_5 ?_
  refine g_newarr (at0 := .int) (ty := .int) (kd := 12) (N' := 11) rfl (Or.inr (Or.inl ⟨rfl, rfl⟩)) ar_int (by decide) rfl (by decide) (by decide) (by decide) dX0_init_7 ?_
  show gY _ _ _ _ _ _ _ _ _ _ _ _ [.ref 4, .ref 3] hp8
  refine g_pR2 lf_X0_11 rfl rfl (by decide +kernel) (by decide +kernel) dX0_init_9 ?_
  show gY _ _ _ _ _ _ _ _ _ _ _ _ [] hp9
  refine g_aL0 dX0_init_12 ?_
  refine g_bipush dX0_init_13 ?_
  refine g_newarr (at0 := .int) (ty := .int) (kd := 12) (N' := 8) rfl (Or.inr (Or.inl ⟨rfl, rfl⟩)) ar_int (by decide) rfl (by decide) (by decide) (by decide) dX0_init_15 ?_
  show gY _ _ _ _ _ _ _ _ _ _ _ _ [.ref 5, .ref 3] hp10
  refine g_pR2 lf_X0_15 rfl rfl (by decide +kernel) (by decide +kernel) dX0_init_17 ?_
  show gY _ _ _ _ _ _ _ _ _ _ _ _ [] hp11
  refine g_aL0 dX0_init_20 ?_
  refine g_bipush dX0_init_21 ?_
  refine g_newarr (at0 := .int) (ty := .int) (kd := 12) (N' := 8) rfl (Or.inr (Or.inl ⟨rfl, rfl⟩)) ar_int (by decide) rfl (by decide) (by decide) (by decide) dX0_init_23 ?_
  show gY _ _ _ _ _ _ _ _ _ _ _ _ [.ref 6, .ref 3] hp12
  refine g_pR2 lf_X0_18 rfl rfl (by decide +kernel) (by decide +kernel) dX0_init_25 ?_
  show gY _ _ _ _ _ _ _ _ _ _ _ _ [] hp13
  refine g_aL0 dX0_init_28 ?_
  refine g_bipush dX0_init_29 ?_
  refine g_newarr (at0 := .int) (ty := .int) (kd := 12) (N' := 8) rfl (Or.inr (Or.inl ⟨rfl, rfl⟩)) ar_int (by decide) rfl (by decide) (by decide) (by decide) dX0_init_31 ?_
  show gY _ _ _ _ _ _ _ _ _ _ _ _ [.ref 7, .ref 3] hp14
  refine g_pR2 lf_X0_21 rfl rfl (by decide +kernel) (by decide +kernel) dX0_init_33 ?_
  show gY _ _ _ _ _ _ _ _ _ _ _ _ [] hp15
  refine g_aL0 dX0_init_36 ?_
  refine g_bipush dX0_init_37 ?_
  refine g_newarr (at0 := .int) (ty := .int) (kd := 12) (N' := 6) rfl (Or.inr (Or.inl ⟨rfl, rfl⟩)) ar_int (by decide) rfl (by decide) (by decide) (by decide) dX0_init_39 ?_
  show gY _ _ _ _ _ _ _ _ _ _ _ _ [.ref 8, .ref 3] hp16
  refine g_pR2 lf_X0_24 rfl rfl (by decide +kernel) (by decide +kernel) dX0_init_41 ?_
  show gY _ _ _ _ _ _ _ _ _ _ _ _ [] hp17
  refine g_aL0 dX0_init_44 ?_
  refine g_bipush dX0_init_45 ?_
  refine g_newarr (at0 := .int) (ty := .int) (kd := 12) (N' := 7) rfl (Or.inr (Or.inl ⟨rfl, rfl⟩)) ar_int (by decide) rfl (by decide) (by decide) (by decide) dX0_init_47 ?_
  show gY _ _ _ _ _ _ _ _ _ _ _ _ [.ref 9, .ref 3] hp18
  refine g_pR2 lf_X0_27 rfl rfl (by decide +kernel) (by decide +kernel) dX0_init_49 ?_
  show gY _ _ _ _ _ _ _ _ _ _ _ _ [] hp19
  refine g_aL0 dX0_init_52 ?_
  refine g_bipush dX0_init_53 ?_
  refine g_newarr (at0 := .int) (ty := .int) (kd := 12) (N' := 49) rfl (Or.inr (Or.inl ⟨rfl, rfl⟩)) ar_int (by decide) rfl (by decide) (by decide) (by decide) dX0_init_55 ?_
  show gY _ _ _ _ _ _ _ _ _ _ _ _ [.ref 10, .ref 3] hp20
  refine g_pR2 lf_X0_30 rfl rfl (by decide +kernel) (by decide +kernel) dX0_init_57 ?_
  show gY _ _ _ _ _ _ _ _ _ _ _ _ [] hp21
  refine g_aL0 dX0_init_60 ?_
  refine g_bipush dX0_init_61 ?_
  refine g_newarr (at0 := .int) (ty := .int) (kd := 12) (N' := 49) rfl (Or.inr (Or.inl ⟨rfl, rfl⟩)) ar_int (by decide) rfl (by decide) (by decide) (by decide) dX0_init_63 ?_
  show gY _ _ _ _ _ _ _ _ _ _ _ _ [.ref 11, .ref 3] hp22
  refine g_pR2 lf_X0_33 rfl rfl (by decide +kernel) (by decide +kernel) dX0_init_65 ?_
  show gY _ _ _ _ _ _ _ _ _ _ _ _ [] hp23
  refine g_aL0 dX0_init_68 ?_
  refine g_bipush dX0_init_69 ?_
  refine g_newarr (at0 := .int) (ty := .int) (kd := 12) (N' := 6) rfl (Or.inr (Or.inl ⟨rfl, rfl⟩)) ar_int (by decide) rfl (by decide) (by decide) (by decide) dX0_init_71 ?_
  show gY _ _ _ _ _ _ _ _ _ _ _ _ [.ref 12, .ref 3] hp24
  refine g_pR2 lf_X0_36 rfl rfl (by decide +kernel) (by decide +kernel) dX0_init_73 ?_
  show gY _ _ _ _ _ _ _ _ _ _ _ _ [] hp25
  refine g_aL0 dX0_init_76 ?_
  refine g_bipush dX0_init_77 ?_
  refine g_newarr (at0 := .int) (ty := .int) (kd := 12) (N' := 6) rfl (Or.inr (Or.inl ⟨rfl, rfl⟩)) ar_int (by decide) rfl (by decide) (by decide) (by decide) dX0_init_79 ?_
  show gY _ _ _ _ _ _ _ _ _ _ _ _ [.ref 13, .ref 3] hp26
  refine g_pR2 lf_X0_39 rfl rfl (by decide +kernel) (by decide +kernel) dX0_init_81 ?_
  show gY _ _ _ _ _ _ _ _ _ _ _ _ [] hp27
  refine g_aL0 dX0_init_84 ?_
  refine g_bipush dX0_init_85 ?_
  refine g_newarr (at0 := .int) (ty := .int) (kd := 12) (N' := 6) rfl (Or.inr (Or.inl ⟨rfl, rfl⟩)) ar_int (by decide) rfl (by decide) (by decide) (by decide) dX0_init_87 ?_
  show gY _ _ _ _ _ _ _ _ _ _ _ _ [.ref 14, .ref 3] hp28
  refine g_pR2 lf_X0_42 rfl rfl (by decide +kernel) (by decide +kernel) dX0_init_89 ?_
  show gY _ _ _ _ _ _ _ _ _ _ _ _ [] hp29
  refine g_aL0 dX0_init_92 ?_
  refine g_bipush dX0_init_93 ?_
  refine g_newarr (at0 := .int) (ty := .int) (kd := 12) (N' := 8) rfl (Or.inr (Or.inl ⟨rfl, rfl⟩)) ar_int (by decide) rfl (by decide) (by decide) (by decide) dX0_init_95 ?_
  show gY _ _ _ _ _ _ _ _ _ _ _ _ [.ref 15, .ref 3] hp30
  refine g_pR2 lf_X0_45 rfl rfl (by decide +kernel) (by decide +kernel) dX0_init_97 ?_
  show gY _ _ _ _ _ _ _ _ _ _ _ _ [] hp31
  refine g_aL0 dX0_init_100 ?_
  refine g_bipush dX0_init_101 ?_
  refine g_newarr (at0 := .int) (ty := .int) (kd := 12) (N' := 8) rfl (Or.inr (Or.inl ⟨rfl, rfl⟩)) ar_int (by decide) rfl (by decide) (by decide) (by decide) dX0_init_103 ?_
  show gY _ _ _ _ _ _ _ _ _ _ _ _ [.ref 16, .ref 3] hp32
  refine g_pR2 lf_X0_48 rfl rfl (by decide +kernel) (by decide +kernel) dX0_init_105 ?_
  show gY _ _ _ _ _ _ _ _ _ _ _ _ [] hp33
  refine g_aL0 dX0_init_108 ?_
  refine g_bipush dX0_init_109 ?_
  refine g_newarr (at0 := .int) (ty := .int) (kd := 12) (N' := 8) rfl (Or.inr (Or.inl ⟨rfl, rfl⟩)) ar_int (by decide) rfl (by decide) (by decide) (by decide) dX0_init_111 ?_
  show gY _ _ _ _ _ _ _ _ _ _ _ _ [.ref 17, .ref 3] hp34
  refine g_pR2 lf_X0_51 rfl rfl (by decide +kernel) (by decide +kernel) dX0_init_113 ?_
  show gY _ _ _ _ _ _ _ _ _ _ _ _ [] hp35
  exact e_vret rfl dX0_init_116 rfl rfl rfl
theorem k_X0_init_18 : gCi 1 14 188 yX0_init cX0_init 1 none [.ref 18] hp37 none hp65 := by
  refine g_entry (lv := [.ref 18]) 0 pn_X0 rfl rfl rfl ?_
  refine g_aL0 dX0_init_0 ?_
  refine g_objInit lo_X0_3 im_obj co_obj rfl rfl dX0_init_1 ?_
  refine g_aL0 dX0_init_4 ?_
  refine g_bipush dX0_init_5 ?_
  refine g_newarr (at0 := .int) (ty := .int) (kd := 12) (N' := 11) rfl (Or.inr (Or.inl ⟨rfl, rfl⟩)) ar_int (by decide) rfl (by decide) (by decide) (by decide) dX0_init_7 ?_
  show gY _ _ _ _ _ _ _ _ _ _ _ _ [.ref 19, .ref 18] hp38
  refine g_pR2 lf_X0_11 rfl rfl (by decide +kernel) (by decide +kernel) dX0_init_9 ?_
  show gY _ _ _ _ _ _ _ _ _ _ _ _ [] hp39
  refine g_aL0 dX0_init_12 ?_
  refine g_bipush dX0_init_13 ?_
  refine g_newarr (at0 := .int) (ty := .int) (kd := 12) (N' := 8) rfl (Or.inr (Or.inl ⟨rfl, rfl⟩)) ar_int (by decide) rfl (by decide) (by decide) (by decide) dX0_init_15 ?_
  show gY _ _ _ _ _ _ _ _ _ _ _ _ [.ref 20, .ref 18] hp40
  refine g_pR2 lf_X0_15 rfl rfl (by decide +kernel) (by decide +kernel) dX0_init_17 ?_
  show gY _ _ _ _ _ _ _ _ _ _ _ _ [] hp41
  refine g_aL0 dX0_init_20 ?_
  refine g_bipush dX0_init_21 ?_
  refine g_newarr (at0 := .int) (ty := .int) (kd := 12) (N' := 8) rfl (Or.inr (Or.inl ⟨rfl, rfl⟩)) ar_int (by decide) rfl (by decide) (by decide) (by decide) dX0_init_23 ?_
  show gY _ _ _ _ _ _ _ _ _ _ _ _ [.ref 21, .ref 18] hp42
  refine g_pR2 lf_X0_18 rfl rfl (by decide +kernel) (by decide +kernel) dX0_init_25 ?_
  show gY _ _ _ _ _ _ _ _ _ _ _ _ [] hp43
  refine g_aL0 dX0_init_28 ?_
  refine g_bipush dX0_init_29 ?_
  refine g_newarr (at0 := .int) (ty := .int) (kd := 12) (N' := 8) rfl (Or.inr (Or.inl ⟨rfl, rfl⟩)) ar_int (by decide) rfl (by decide) (by decide) (by decide) dX0_init_31 ?_
  show gY _ _ _ _ _ _ _ _ _ _ _ _ [.ref 22, .ref 18] hp44
  refine g_pR2 lf_X0_21 rfl rfl (by decide +kernel) (by decide +kernel) dX0_init_33 ?_
  show gY _ _ _ _ _ _ _ _ _ _ _ _ [] hp45
  refine g_aL0 dX0_init_36 ?_
  refine g_bipush dX0_init_37 ?_
  refine g_newarr (at0 := .int) (ty := .int) (kd := 12) (N' := 6) rfl (Or.inr (Or.inl ⟨rfl, rfl⟩)) ar_int (by decide) rfl (by decide) (by decide) (by decide) dX0_init_39 ?_
  show gY _ _ _ _ _ _ _ _ _ _ _ _ [.ref 23, .ref 18] hp46
  refine g_pR2 lf_X0_24 rfl rfl (by decide +kernel) (by decide +kernel) dX0_init_41 ?_
  show gY _ _ _ _ _ _ _ _ _ _ _ _ [] hp47
  refine g_aL0 dX0_init_44 ?_
  refine g_bipush dX0_init_45 ?_
  refine g_newarr (at0 := .int) (ty := .int) (kd := 12) (N' := 7) rfl (Or.inr (Or.inl ⟨rfl, rfl⟩)) ar_int (by decide) rfl (by decide) (by decide) (by decide) dX0_init_47 ?_
  show gY _ _ _ _ _ _ _ _ _ _ _ _ [.ref 24, .ref 18] hp48
  refine g_pR2 lf_X0_27 rfl rfl (by decide +kernel) (by decide +kernel) dX0_init_49 ?_
  show gY _ _ _ _ _ _ _ _ _ _ _ _ [] hp49
  refine g_aL0 dX0_init_52 ?_
  refine g_bipush dX0_init_53 ?_
  refine g_newarr (at0 := .int) (ty := .int) (kd := 12) (N' := 49) rfl (Or.inr (Or.inl ⟨rfl, rfl⟩)) ar_int (by decide) rfl (by decide) (by decide) (by decide) dX0_init_55 ?_
  show gY _ _ _ _ _ _ _ _ _ _ _ _ [.ref 25, .ref 18] hp50
  refine g_pR2 lf_X0_30 rfl rfl (by decide +kernel) (by decide +kernel) dX0_init_57 ?_
  show gY _ _ _ _ _ _ _ _ _ _ _ _ [] hp51
  refine g_aL0 dX0_init_60 ?_
  refine g_bipush dX0_init_61 ?_
  refine g_newarr (at0 := .int) (ty := .int) (kd := 12) (N' := 49) rfl (Or.inr (Or.inl ⟨rfl, rfl⟩)) ar_int (by decide) rfl (by decide) (by decide) (by decide) dX0_init_63 ?_
  show gY _ _ _ _ _ _ _ _ _ _ _ _ [.ref 26, .ref 18] hp52
  refine g_pR2 lf_X0_33 rfl rfl (by decide +kernel) (by decide +kernel) dX0_init_65 ?_
  show gY _ _ _ _ _ _ _ _ _ _ _ _ [] hp53
  refine g_aL0 dX0_init_68 ?_
  refine g_bipush dX0_init_69 ?_
  refine g_newarr (at0 := .int) (ty := .int) (kd := 12) (N' := 6) rfl (Or.inr (Or.inl ⟨rfl, rfl⟩)) ar_int (by decide) rfl (by decide) (by decide) (by decide) dX0_init_71 ?_
  show gY _ _ _ _ _ _ _ _ _ _ _ _ [.ref 27, .ref 18] hp54
  refine g_pR2 lf_X0_36 rfl rfl (by decide +kernel) (by decide +kernel) dX0_init_73 ?_
  show gY _ _ _ _ _ _ _ _ _ _ _ _ [] hp55
  refine g_aL0 dX0_init_76 ?_
  refine g_bipush dX0_init_77 ?_
  refine g_newarr (at0 := .int) (ty := .int) (kd := 12) (N' := 6) rfl (Or.inr (Or.inl ⟨rfl, rfl⟩)) ar_int (by decide) rfl (by decide) (by decide) (by decide) dX0_init_79 ?_
  show gY _ _ _ _ _ _ _ _ _ _ _ _ [.ref 28, .ref 18] hp56
  refine g_pR2 lf_X0_39 rfl rfl (by decide +kernel) (by decide +kernel) dX0_init_81 ?_
  show gY _ _ _ _ _ _ _ _ _ _ _ _ [] hp57
  refine g_aL0 dX0_init_84 ?_
  refine g_bipush dX0_init_85 ?_
  refine g_newarr (at0 := .int) (ty := .int) (kd := 12) (N' := 6) rfl (Or.inr (Or.inl ⟨rfl, rfl⟩)) ar_int (by decide) rfl (by decide) (by decide) (by decide) dX0_init_87 ?_
  show gY _ _ _ _ _ _ _ _ _ _ _ _ [.ref 29, .ref 18] hp58
  refine g_pR2 lf_X0_42 rfl rfl (by decide +kernel) (by decide +kernel) dX0_init_89 ?_
  show gY _ _ _ _ _ _ _ _ _ _ _ _ [] hp59
  refine g_aL0 dX0_init_92 ?_
  refine g_bipush dX0_init_93 ?_
  refine g_newarr (at0 := .int) (ty := .int) (kd := 12) (N' := 8) rfl (Or.inr (Or.inl ⟨rfl, rfl⟩)) ar_int (by decide) rfl (by decide) (by decide) (by decide) dX0_init_95 ?_
  show gY _ _ _ _ _ _ _ _ _ _ _ _ [.ref 30, .ref 18] hp60
  refine g_pR2 lf_X0_45 rfl rfl (by decide +kernel) (by decide +kernel) dX0_init_97 ?_
  show gY _ _ _ _ _ _ _ _ _ _ _ _ [] hp61
  refine g_aL0 dX0_init_100 ?_
  refine g_bipush dX0_init_101 ?_
  refine g_newarr (at0 := .int) (ty := .int) (kd := 12) (N' := 8) rfl (Or.inr (Or.inl ⟨rfl, rfl⟩)) ar_int (by decide) rfl (by decide) (by decide) (by decide) dX0_init_103 ?_
  show gY _ _ _ _ _ _ _ _ _ _ _ _ [.ref 31, .ref 18] hp62
  refine g_pR2 lf_X0_48 rfl rfl (by decide +kernel) (by decide +kernel) dX0_init_105 ?_
  show gY _ _ _ _ _ _ _ _ _ _ _ _ [] hp63
  refine g_aL0 dX0_init_108 ?_
  refine g_bipush dX0_init_109 ?_
  refine g_newarr (at0 := .int) (ty := .int) (kd := 12) (N' := 8) rfl (Or.inr (Or.inl ⟨rfl, rfl⟩)) ar_int (by decide) rfl (by decide) (by decide) (by decide) dX0_init_111 ?_
  show gY _ _ _ _ _ _ _ _ _ _ _ _ [.ref 32, .ref 18] hp64
  refine g_pR2 lf_X0_51 rfl rfl (by decide +kernel) (by decide +kernel) dX0_init_113 ?_
  show gY _ _ _ _ _ _ _ _ _ _ _ _ [] hp65
  exact e_vret rfl dX0_init_116 rfl rfl rfl
theorem k_X5_init_34 : gCi 1 0 0 yX5_init cX5_init 2 none [.ref 34, .ref 1] hp68 none hp73 := by
  refine g_entry (lv := [.ref 34, .ref 1]) 0 pn_X5 rfl rfl rfl ?_
  refine g_aL0 dX5_init_0 ?_
  refine g_objInit lo_X5_1 im_obj co_obj rfl rfl dX5_init_1 ?_
  refine g_aL0 dX5_init_4 ?_
  refine g_aL1 dX5_init_5 ?_
  refine g_getR (b := 2) lf_X5_7 (by decide +kernel) (by decide +kernel) (by decide +kernel) dX5_init_6 ?_
  refine g_pR2 lf_X5_13 rfl rfl (by decide +kernel) (by decide +kernel) dX5_init_9 ?_
  show gY _ _ _ _ _ _ _ _ _ _ _ _ [] hp69
  refine g_aL0 dX5_init_12 ?_
  refine g_iconst dX5_init_13 ?_
  refine g_pI0 lf_X5_16 (by decide +kernel) (by decide +kernel) dX5_init_14 ?_
  show gY _ _ _ _ _ _ _ _ _ _ _ _ [] hp70
  refine g_aL0 dX5_init_17 ?_
  refine g_iconst dX5_init_18 ?_
  refine g_pI0 lf_X5_20 (by decide +kernel) (by decide +kernel) dX5_init_19 ?_
  show gY _ _ _ _ _ _ _ _ _ _ _ _ [] hp71
  refine g_aL0 dX5_init_22 ?_
  refine g_iconst dX5_init_23 ?_
  refine g_pI0 lf_X5_23 (by decide +kernel) (by decide +kernel) dX5_init_24 ?_
  show gY _ _ _ _ _ _ _ _ _ _ _ _ [] hp72
  refine g_aL0 dX5_init_27 ?_
  refine g_iconst dX5_init_28 ?_
  refine g_pI0 lf_X5_26 (by decide +kernel) (by decide +kernel) dX5_init_29 ?_
  show gY _ _ _ _ _ _ _ _ _ _ _ _ [] hp73
  exact e_vret rfl dX5_init_32 rfl rfl rfl
theorem k_X3_init_33 : gCi 2 4 104 yX3_init cX3_init 3 none [.ref 33, .ref 1, .ref 18] hp67 none hp82 := by
  refine g_entry (lv := [.ref 33, .ref 1, .ref 18]) 0 pn_X3 rfl rfl rfl ?_
  refine g_aL0 dX3_init_0 ?_
  refine g_objInit lo_X3_5 im_obj co_obj rfl rfl dX3_init_1 ?_
  refine g_aL0 dX3_init_4 ?_
  refine g_new cls_X5 (by decide) lk_X3_11 ins_X5 in_X5 (by decide) (by decide) dX3_init_5 ?_
  show gY _ _ _ _ _ _ _ _ _ _ _ _ [.ref 34, .ref 33] hp68
  refine g_dup dX3_init_8 rfl ?_
  refine g_aL1 dX3_init_9 ?_
  refine e_n1 k_X5_init_34 lm_X3_13 dX3_init_10 rfl rfl rfl rfl ?_
  show gY _ _ _ _ _ _ _ _ _ _ _ _ [.ref 34, .ref 33] hp73
  refine g_pR2 lf_X3_16 rfl rfl (by decide +kernel) (by decide +kernel) dX3_init_13 ?_
  show gY _ _ _ _ _ _ _ _ _ _ _ _ [] hp74
  refine g_aL0 dX3_init_16 ?_
  refine g_aL2 dX3_init_17 ?_
  refine g_pR0 lf_X3_22 (by decide +kernel) (by decide +kernel) dX3_init_18 ?_
  show gY _ _ _ _ _ _ _ _ _ _ _ _ [] hp75
  refine g_aL0 dX3_init_21 ?_
  refine g_iconst dX3_init_22 ?_
  refine g_pI0 lf_X3_26 (by decide +kernel) (by decide +kernel) dX3_init_23 ?_
  show gY _ _ _ _ _ _ _ _ _ _ _ _ [] hp76
  refine g_aL0 dX3_init_26 ?_
  refine g_bipush dX3_init_27 ?_
  refine g_newarr (at0 := .long) (ty := .long) (kd := 13) (N' := 33) rfl (Or.inr (Or.inr ⟨rfl, rfl⟩)) ar_long (by decide) rfl (by decide) (by decide) (by decide) dX3_init_29 ?_
  show gY _ _ _ _ _ _ _ _ _ _ _ _ [.ref 35, .ref 33] hp77
  refine g_pR2 lf_X3_30 rfl rfl (by decide +kernel) (by decide +kernel) dX3_init_31 ?_
  show gY _ _ _ _ _ _ _ _ _ _ _ _ [] hp78
  refine g_aL0 dX3_init_34 ?_
  refine g_bipush dX3_init_35 ?_
  refine g_newarr (at0 := .int) (ty := .int) (kd := 12) (N' := 33) rfl (Or.inr (Or.inl ⟨rfl, rfl⟩)) ar_int (by decide) rfl (by decide) (by decide) (by decide) dX3_init_37 ?_
  show gY _ _ _ _ _ _ _ _ _ _ _ _ [.ref 36, .ref 33] hp79
  refine g_pR2 lf_X3_34 rfl rfl (by decide +kernel) (by decide +kernel) dX3_init_39 ?_
  show gY _ _ _ _ _ _ _ _ _ _ _ _ [] hp80
  refine g_aL0 dX3_init_42 ?_
  refine g_bipush dX3_init_43 ?_
  refine g_newarr (at0 := .int) (ty := .int) (kd := 12) (N' := 33) rfl (Or.inr (Or.inl ⟨rfl, rfl⟩)) ar_int (by decide) rfl (by decide) (by decide) (by decide) dX3_init_45 ?_
  show gY _ _ _ _ _ _ _ _ _ _ _ _ [.ref 37, .ref 33] hp81
  refine g_pR2 lf_X3_38 rfl rfl (by decide +kernel) (by decide +kernel) dX3_init_47 ?_
  show gY _ _ _ _ _ _ _ _ _ _ _ _ [] hp82
  exact e_vret rfl dX3_init_50 rfl rfl rfl
theorem k_X2_init_38 : gCi 1 6 115 yX2_init cX2_init 2 none [.ref 38, .ref 3] hp84 none hp97 := by
  refine g_entry (lv := [.ref 38, .ref 3]) 0 pn_X2 rfl rfl rfl ?_
  refine g_aL0 dX2_init_0 ?_
  refine g_objInit lo_X2_5 im_obj co_obj rfl rfl dX2_init_1 ?_
  refine g_aL0 dX2_init_4 ?_
  refine g_aL1 dX2_init_5 ?_
  refine g_pR0 lf_X2_11 (by decide +kernel) (by decide +kernel) dX2_init_6 ?_
  show gY _ _ _ _ _ _ _ _ _ _ _ _ [] hp85
  refine g_aL0 dX2_init_9 ?_
  refine g_bipush dX2_init_10 ?_
  refine g_newarr (at0 := .int) (ty := .int) (kd := 12) (N' := 8) rfl (Or.inr (Or.inl ⟨rfl, rfl⟩)) ar_int (by decide) rfl (by decide) (by decide) (by decide) dX2_init_12 ?_
  show gY _ _ _ _ _ _ _ _ _ _ _ _ [.ref 39, .ref 38] hp86
  refine g_pR2 lf_X2_17 rfl rfl (by decide +kernel) (by decide +kernel) dX2_init_14 ?_
  show gY _ _ _ _ _ _ _ _ _ _ _ _ [] hp87
  refine g_aL0 dX2_init_17 ?_
  refine g_bipush dX2_init_18 ?_
  refine g_newarr (at0 := .int) (ty := .int) (kd := 12) (N' := 8) rfl (Or.inr (Or.inl ⟨rfl, rfl⟩)) ar_int (by decide) rfl (by decide) (by decide) (by decide) dX2_init_20 ?_
  show gY _ _ _ _ _ _ _ _ _ _ _ _ [.ref 40, .ref 38] hp88
  refine g_pR2 lf_X2_21 rfl rfl (by decide +kernel) (by decide +kernel) dX2_init_22 ?_
  show gY _ _ _ _ _ _ _ _ _ _ _ _ [] hp89
  refine g_aL0 dX2_init_25 ?_
  refine g_bipush dX2_init_26 ?_
  refine g_newarr (at0 := .int) (ty := .int) (kd := 12) (N' := 16) rfl (Or.inr (Or.inl ⟨rfl, rfl⟩)) ar_int (by decide) rfl (by decide) (by decide) (by decide) dX2_init_28 ?_
  show gY _ _ _ _ _ _ _ _ _ _ _ _ [.ref 41, .ref 38] hp90
  refine g_pR2 lf_X2_24 rfl rfl (by decide +kernel) (by decide +kernel) dX2_init_30 ?_
  show gY _ _ _ _ _ _ _ _ _ _ _ _ [] hp91
  refine g_aL0 dX2_init_33 ?_
  refine g_bipush dX2_init_34 ?_
  refine g_newarr (at0 := .int) (ty := .int) (kd := 12) (N' := 16) rfl (Or.inr (Or.inl ⟨rfl, rfl⟩)) ar_int (by decide) rfl (by decide) (by decide) (by decide) dX2_init_36 ?_
  show gY _ _ _ _ _ _ _ _ _ _ _ _ [.ref 42, .ref 38] hp92
  refine g_pR2 lf_X2_27 rfl rfl (by decide +kernel) (by decide +kernel) dX2_init_38 ?_
  show gY _ _ _ _ _ _ _ _ _ _ _ _ [] hp93
  refine g_aL0 dX2_init_41 ?_
  refine g_bipush dX2_init_42 ?_
  refine g_newarr (at0 := .int) (ty := .int) (kd := 12) (N' := 16) rfl (Or.inr (Or.inl ⟨rfl, rfl⟩)) ar_int (by decide) rfl (by decide) (by decide) (by decide) dX2_init_44 ?_
  show gY _ _ _ _ _ _ _ _ _ _ _ _ [.ref 43, .ref 38] hp94
  refine g_pR2 lf_X2_30 rfl rfl (by decide +kernel) (by decide +kernel) dX2_init_46 ?_
  show gY _ _ _ _ _ _ _ _ _ _ _ _ [] hp95
  refine g_aL0 dX2_init_49 ?_
  refine g_bipush dX2_init_50 ?_
  refine g_newarr (at0 := .int) (ty := .int) (kd := 12) (N' := 51) rfl (Or.inr (Or.inl ⟨rfl, rfl⟩)) ar_int (by decide) rfl (by decide) (by decide) (by decide) dX2_init_52 ?_
  show gY _ _ _ _ _ _ _ _ _ _ _ _ [.ref 44, .ref 38] hp96
  refine g_pR2 lf_X2_33 rfl rfl (by decide +kernel) (by decide +kernel) dX2_init_54 ?_
  show gY _ _ _ _ _ _ _ _ _ _ _ _ [] hp97
  exact e_vret rfl dX2_init_57 rfl rfl rfl
theorem k_X7_init_45 : gCi 1 2 14 yX7_init cX7_init 2 none [.ref 45, .ref 3] hp99 none hp104 := by
  refine g_entry (lv := [.ref 45, .ref 3]) 0 pn_X7 rfl rfl rfl ?_
  refine g_aL0 dX7_init_0 ?_
  refine g_objInit lo_X7_1 im_obj co_obj rfl rfl dX7_init_1 ?_
  refine g_aL0 dX7_init_4 ?_
  refine g_aL1 dX7_init_5 ?_
  refine g_pR0 lf_X7_7 (by decide +kernel) (by decide +kernel) dX7_init_6 ?_
  show gY _ _ _ _ _ _ _ _ _ _ _ _ [] hp100
  refine g_aL0 dX7_init_9 ?_
  refine g_bipush dX7_init_10 ?_
  refine g_newarr (at0 := .int) (ty := .int) (kd := 12) (N' := 7) rfl (Or.inr (Or.inl ⟨rfl, rfl⟩)) ar_int (by decide) rfl (by decide) (by decide) (by decide) dX7_init_12 ?_
  show gY _ _ _ _ _ _ _ _ _ _ _ _ [.ref 46, .ref 45] hp101
  refine g_pR2 lf_X7_15 rfl rfl (by decide +kernel) (by decide +kernel) dX7_init_14 ?_
  show gY _ _ _ _ _ _ _ _ _ _ _ _ [] hp102
  refine g_aL0 dX7_init_17 ?_
  refine g_bipush dX7_init_18 ?_
  refine g_newarr (at0 := .int) (ty := .int) (kd := 12) (N' := 7) rfl (Or.inr (Or.inl ⟨rfl, rfl⟩)) ar_int (by decide) rfl (by decide) (by decide) (by decide) dX7_init_20 ?_
  show gY _ _ _ _ _ _ _ _ _ _ _ _ [.ref 47, .ref 45] hp103
  refine g_pR2 lf_X7_19 rfl rfl (by decide +kernel) (by decide +kernel) dX7_init_22 ?_
  show gY _ _ _ _ _ _ _ _ _ _ _ _ [] hp104
  exact e_vret rfl dX7_init_25 rfl rfl rfl
theorem k_X6_init_48 : gCi 1 0 0 yX6_init cX6_init 1 none [.ref 48] hp106 none hp108 := by
  refine g_entry (lv := [.ref 48]) 0 pn_X6 rfl rfl rfl ?_
  refine g_aL0 dX6_init_0 ?_
  refine g_objInit lo_X6_1 im_obj co_obj rfl rfl dX6_init_1 ?_
  refine g_aL0 dX6_init_4 ?_
  refine g_iconst dX6_init_5 ?_
  refine g_pI0 lf_X6_7 (by decide +kernel) (by decide +kernel) dX6_init_6 ?_
  show gY _ _ _ _ _ _ _ _ _ _ _ _ [] hp107
  refine g_aL0 dX6_init_9 ?_
  refine g_iconst dX6_init_10 ?_
  refine g_pI0 lf_X6_13 (by decide +kernel) (by decide +kernel) dX6_init_11 ?_
  show gY _ _ _ _ _ _ _ _ _ _ _ _ [] hp108
  exact e_vret rfl dX6_init_14 rfl rfl rfl
theorem k_X1_init_49 : gCi 1 0 0 yX1_init cX1_init 1 none [.ref 49] hp110 none hp113 := by
  refine g_entry (lv := [.ref 49]) 0 pn_X1 rfl rfl rfl ?_
  refine g_aL0 dX1_init_0 ?_
  refine g_objInit lo_X1_1 im_obj co_obj rfl rfl dX1_init_1 ?_
  refine g_aL0 dX1_init_4 ?_
  refine g_iconst dX1_init_5 ?_
  refine g_pI0 lf_X1_7 (by decide +kernel) (by decide +kernel) dX1_init_6 ?_
  show gY _ _ _ _ _ _ _ _ _ _ _ _ [] hp111
  refine g_aL0 dX1_init_9 ?_
  refine g_iconst dX1_init_10 ?_
  refine g_pI0 lf_X1_13 (by decide +kernel) (by decide +kernel) dX1_init_11 ?_
  show gY _ _ _ _ _ _ _ _ _ _ _ _ [] hp112
  refine g_aL0 dX1_init_14 ?_
  refine g_iconst dX1_init_15 ?_
  refine g_pI0 lf_X1_16 (by decide +kernel) (by decide +kernel) dX1_init_16 ?_
  show gY _ _ _ _ _ _ _ _ _ _ _ _ [] hp113
  exact e_vret rfl dX1_init_19 rfl rfl rfl
theorem k_X8 : gCi 3 49 1786 yX8_init cX8_init 1 none [.ref 0] hp1 none hp117 := by
  refine g_entry (lv := [.ref 0]) 0 pn_X8 rfl rfl rfl ?_
  refine g_aL0 dX8_init_0 ?_
  refine g_objInit lo_X8_1 im_obj co_obj rfl rfl dX8_init_1 ?_
  refine g_aL0 dX8_init_4 ?_
  refine g_new cls_X4 (by decide) lk_X8_7 ins_X4 in_X4 (by decide) (by decide) dX8_init_5 ?_
  show gY _ _ _ _ _ _ _ _ _ _ _ _ [.ref 1, .ref 0] hp2
  refine g_dup dX8_init_8 rfl ?_
  refine e_n0 k_X4_init_1 lm_X8_9 dX8_init_9 rfl rfl rfl rfl ?_
  show gY _ _ _ _ _ _ _ _ _ _ _ _ [.ref 1, .ref 0] hp5
  refine g_pR2 lf_X8_10 rfl rfl (by decide +kernel) (by decide +kernel) dX8_init_12 ?_
  show gY _ _ _ _ _ _ _ _ _ _ _ _ [] hp6
  refine g_aL0 dX8_init_15 ?_
  refine g_new cls_X0 (by decide) lk_X8_16 ins_X0 in_X0 (by decide) (by decide) dX8_init_16 ?_
  show gY _ _ _ _ _ _ _ _ _ _ _ _ [.ref 3, .ref 0] hp7
  refine g_dup dX8_init_19 rfl ?_
  refine e_n0 k_X0_init_3 lm_X8_18 dX8_init_20 rfl rfl rfl rfl ?_
  show gY _ _ _ _ _ _ _ _ _ _ _ _ [.ref 3, .ref 0] hp35
  refine g_pR0 lf_X8_19 (by decide +kernel) (by decide +kernel) dX8_init_23 ?_
  show gY _ _ _ _ _ _ _ _ _ _ _ _ [] hp36
  refine g_aL0 dX8_init_26 ?_
  refine g_new cls_X0 (by decide) lk_X8_16 ins_X0 in_X0 (by decide) (by decide) dX8_init_27 ?_
  show gY _ _ _ _ _ _ _ _ _ _ _ _ [.ref 18, .ref 0] hp37
  refine g_dup dX8_init_30 rfl ?_
  refine e_n0 k_X0_init_18 lm_X8_18 dX8_init_31 rfl rfl rfl rfl ?_
  show gY _ _ _ _ _ _ _ _ _ _ _ _ [.ref 18, .ref 0] hp65
  refine g_pR0 lf_X8_23 (by decide +kernel) (by decide +kernel) dX8_init_34 ?_
  show gY _ _ _ _ _ _ _ _ _ _ _ _ [] hp66
  refine g_aL0 dX8_init_37 ?_
  refine g_new cls_X3 (by decide) lk_X8_26 ins_X3 in_X3 (by decide) (by decide) dX8_init_38 ?_
  show gY _ _ _ _ _ _ _ _ _ _ _ _ [.ref 33, .ref 0] hp67
  refine g_dup dX8_init_41 rfl ?_
  refine g_aL0 dX8_init_42 ?_
  refine g_getR (b := 1) lf_X8_10 (by decide +kernel) (by decide +kernel) (by decide +kernel) dX8_init_43 ?_
  refine g_aL0 dX8_init_46 ?_
  refine g_getR (b := 18) lf_X8_23 (by decide +kernel) (by decide +kernel) (by decide +kernel) dX8_init_47 ?_
  refine e_n2 k_X3_init_33 lm_X8_28 dX8_init_50 rfl rfl rfl rfl ?_
  show gY _ _ _ _ _ _ _ _ _ _ _ _ [.ref 33, .ref 0] hp82
  refine g_pR2 lf_X8_31 rfl rfl (by decide +kernel) (by decide +kernel) dX8_init_53 ?_
  show gY _ _ _ _ _ _ _ _ _ _ _ _ [] hp83
  refine g_aL0 dX8_init_56 ?_
  refine g_new cls_X2 (by decide) lk_X8_35 ins_X2 in_X2 (by decide) (by decide) dX8_init_57 ?_
  show gY _ _ _ _ _ _ _ _ _ _ _ _ [.ref 38, .ref 0] hp84
  refine g_dup dX8_init_60 rfl ?_
  refine g_aL0 dX8_init_61 ?_
  refine g_getR (b := 3) lf_X8_19 (by decide +kernel) (by decide +kernel) (by decide +kernel) dX8_init_62 ?_
  refine e_n1 k_X2_init_38 lm_X8_37 dX8_init_65 rfl rfl rfl rfl ?_
  show gY _ _ _ _ _ _ _ _ _ _ _ _ [.ref 38, .ref 0] hp97
  refine g_pR2 lf_X8_40 rfl rfl (by decide +kernel) (by decide +kernel) dX8_init_68 ?_
  show gY _ _ _ _ _ _ _ _ _ _ _ _ [] hp98
  refine g_aL0 dX8_init_71 ?_
  refine g_new cls_X7 (by decide) lk_X8_44 ins_X7 in_X7 (by decide) (by decide) dX8_init_72 ?_
  show gY _ _ _ _ _ _ _ _ _ _ _ _ [.ref 45, .ref 0] hp99
  refine g_dup dX8_init_75 rfl ?_
  refine g_aL0 dX8_init_76 ?_
  refine g_getR (b := 3) lf_X8_19 (by decide +kernel) (by decide +kernel) (by decide +kernel) dX8_init_77 ?_
  refine e_n1 k_X7_init_45 lm_X8_46 dX8_init_80 rfl rfl rfl rfl ?_
  show gY _ _ _ _ _ _ _ _ _ _ _ _ [.ref 45, .ref 0] hp104
  refine g_pR2 lf_X8_47 rfl rfl (by decide +kernel) (by decide +kernel) dX8_init_83 ?_
  show gY _ _ _ _ _ _ _ _ _ _ _ _ [] hp105
  refine g_aL0 dX8_init_86 ?_
  refine g_new cls_X6 (by decide) lk_X8_51 ins_X6 in_X6 (by decide) (by decide) dX8_init_87 ?_
  show gY _ _ _ _ _ _ _ _ _ _ _ _ [.ref 48, .ref 0] hp106
  refine g_dup dX8_init_90 rfl ?_
  refine e_n0 k_X6_init_48 lm_X8_53 dX8_init_91 rfl rfl rfl rfl ?_
  show gY _ _ _ _ _ _ _ _ _ _ _ _ [.ref 48, .ref 0] hp108
  refine g_pR2 lf_X8_54 rfl rfl (by decide +kernel) (by decide +kernel) dX8_init_94 ?_
  show gY _ _ _ _ _ _ _ _ _ _ _ _ [] hp109
  refine g_aL0 dX8_init_97 ?_
  refine g_new cls_X1 (by decide) lk_X8_58 ins_X1 in_X1 (by decide) (by decide) dX8_init_98 ?_
  show gY _ _ _ _ _ _ _ _ _ _ _ _ [.ref 49, .ref 0] hp110
  refine g_dup dX8_init_101 rfl ?_
  refine e_n0 k_X1_init_49 lm_X8_60 dX8_init_102 rfl rfl rfl rfl ?_
  show gY _ _ _ _ _ _ _ _ _ _ _ _ [.ref 49, .ref 0] hp113
  refine g_pR2 lf_X8_61 rfl rfl (by decide +kernel) (by decide +kernel) dX8_init_105 ?_
  show gY _ _ _ _ _ _ _ _ _ _ _ _ [] hp114
  refine g_aL0 dX8_init_108 ?_
  refine g_iconst dX8_init_109 ?_
  refine g_pI0 lf_X8_65 (by decide +kernel) (by decide +kernel) dX8_init_110 ?_
  show gY _ _ _ _ _ _ _ _ _ _ _ _ [] hp115
  refine g_aL0 dX8_init_113 ?_
  refine g_iconst dX8_init_114 ?_
  refine g_pI0 lf_X8_69 (by decide +kernel) (by decide +kernel) dX8_init_115 ?_
  show gY _ _ _ _ _ _ _ _ _ _ _ _ [] hp116
  refine g_aL0 dX8_init_118 ?_
  refine g_iconst dX8_init_119 ?_
  refine g_pI0 lf_X8_72 (by decide +kernel) (by decide +kernel) dX8_init_120 ?_
  show gY _ _ _ _ _ _ _ _ _ _ _ _ [] hp117
  exact e_vret rfl dX8_init_123 rfl rfl rfl
theorem k_X10 : gCi 1 8 1478 yX10_init cX10_init 1 none [.ref 50] hp118 none hp135 := by
  refine g_entry (lv := [.ref 50]) 0 pn_X10 rfl rfl rfl ?_
  refine g_aL0 dX10_init_0 ?_
  refine g_objInit lo_X10_3 im_obj co_obj rfl rfl dX10_init_1 ?_
  refine g_aL0 dX10_init_4 ?_
  refine g_iconst dX10_init_5 ?_
  refine g_pI0 lf_X10_9 (by decide +kernel) (by decide +kernel) dX10_init_6 ?_
  show gY _ _ _ _ _ _ _ _ _ _ _ _ [] hp119
  refine g_aL0 dX10_init_9 ?_
  refine g_sipush dX10_init_10 ?_
  refine g_newarr (at0 := .byte) (ty := .byte) (kd := 11) (N' := 1100) rfl (Or.inl ⟨rfl, rfl⟩) ar_byte (by decide) rfl (by decide) (by decide) (by decide) dX10_init_13 ?_
  show gY _ _ _ _ _ _ _ _ _ _ _ _ [.ref 51, .ref 50] hp120
  refine g_pR2 lf_X10_13 rfl rfl (by decide +kernel) (by decide +kernel) dX10_init_15 ?_
  show gY _ _ _ _ _ _ _ _ _ _ _ _ [] hp121
  refine g_aL0 dX10_init_18 ?_
  refine g_bipush dX10_init_19 ?_
  refine g_newarr (at0 := .int) (ty := .int) (kd := 12) (N' := 17) rfl (Or.inr (Or.inl ⟨rfl, rfl⟩)) ar_int (by decide) rfl (by decide) (by decide) (by decide) dX10_init_21 ?_
  show gY _ _ _ _ _ _ _ _ _ _ _ _ [.ref 52, .ref 50] hp122
  refine g_pR2 lf_X10_17 rfl rfl (by decide +kernel) (by decide +kernel) dX10_init_23 ?_
  show gY _ _ _ _ _ _ _ _ _ _ _ _ [] hp123
  refine g_aL0 dX10_init_26 ?_
  refine g_sipush dX10_init_27 ?_
  refine g_newarr (at0 := .int) (ty := .int) (kd := 12) (N' := 272) rfl (Or.inr (Or.inl ⟨rfl, rfl⟩)) ar_int (by decide) rfl (by decide) (by decide) (by decide) dX10_init_30 ?_
  show gY _ _ _ _ _ _ _ _ _ _ _ _ [.ref 53, .ref 50] hp124
  refine g_pR2 lf_X10_21 rfl rfl (by decide +kernel) (by decide +kernel) dX10_init_32 ?_
  show gY _ _ _ _ _ _ _ _ _ _ _ _ [] hp125
  refine g_aL0 dX10_init_35 ?_
  refine g_bipush dX10_init_36 ?_
  refine g_newarr (at0 := .int) (ty := .int) (kd := 12) (N' := 51) rfl (Or.inr (Or.inl ⟨rfl, rfl⟩)) ar_int (by decide) rfl (by decide) (by decide) (by decide) dX10_init_38 ?_
  show gY _ _ _ _ _ _ _ _ _ _ _ _ [.ref 54, .ref 50] hp126
  refine g_pR2 lf_X10_24 rfl rfl (by decide +kernel) (by decide +kernel) dX10_init_40 ?_
  show gY _ _ _ _ _ _ _ _ _ _ _ _ [] hp127
  refine g_aL0 dX10_init_43 ?_
  refine g_bipush dX10_init_44 ?_
  refine g_newarr (at0 := .int) (ty := .int) (kd := 12) (N' := 7) rfl (Or.inr (Or.inl ⟨rfl, rfl⟩)) ar_int (by decide) rfl (by decide) (by decide) (by decide) dX10_init_46 ?_
  show gY _ _ _ _ _ _ _ _ _ _ _ _ [.ref 55, .ref 50] hp128
  refine g_pR2 lf_X10_27 rfl rfl (by decide +kernel) (by decide +kernel) dX10_init_48 ?_
  show gY _ _ _ _ _ _ _ _ _ _ _ _ [] hp129
  refine g_aL0 dX10_init_51 ?_
  refine g_bipush dX10_init_52 ?_
  refine g_newarr (at0 := .int) (ty := .int) (kd := 12) (N' := 7) rfl (Or.inr (Or.inl ⟨rfl, rfl⟩)) ar_int (by decide) rfl (by decide) (by decide) (by decide) dX10_init_54 ?_
  show gY _ _ _ _ _ _ _ _ _ _ _ _ [.ref 56, .ref 50] hp130
  refine g_pR2 lf_X10_30 rfl rfl (by decide +kernel) (by decide +kernel) dX10_init_56 ?_
  show gY _ _ _ _ _ _ _ _ _ _ _ _ [] hp131
  refine g_aL0 dX10_init_59 ?_
  refine g_bipush dX10_init_60 ?_
  refine g_newarr (at0 := .int) (ty := .int) (kd := 12) (N' := 20) rfl (Or.inr (Or.inl ⟨rfl, rfl⟩)) ar_int (by decide) rfl (by decide) (by decide) (by decide) dX10_init_62 ?_
  show gY _ _ _ _ _ _ _ _ _ _ _ _ [.ref 57, .ref 50] hp132
  refine g_pR2 lf_X10_33 rfl rfl (by decide +kernel) (by decide +kernel) dX10_init_64 ?_
  show gY _ _ _ _ _ _ _ _ _ _ _ _ [] hp133
  refine g_aL0 dX10_init_67 ?_
  refine g_iconst dX10_init_68 ?_
  refine g_newarr (at0 := .int) (ty := .int) (kd := 12) (N' := 4) rfl (Or.inr (Or.inl ⟨rfl, rfl⟩)) ar_int (by decide) rfl (by decide) (by decide) (by decide) dX10_init_69 ?_
  show gY _ _ _ _ _ _ _ _ _ _ _ _ [.ref 58, .ref 50] hp134
  refine g_pR2 lf_X10_36 rfl rfl (by decide +kernel) (by decide +kernel) dX10_init_71 ?_
  show gY _ _ _ _ _ _ _ _ _ _ _ _ [] hp135
  exact e_vret rfl dX10_init_74 rfl rfl rfl
abbrev hpA : Hp := hp117
abbrev hpB : Hp := hp135
abbrev hpC : Hp := hp136
theorem hpC_S : SX hpC := by
  have k1 : ∀ a : Fin 60, a.1 ∈ gL hpC := by decide +kernel
  have k2 : ∀ a : Fin 60, gK hpC a.1 = kXl.getD a.1 0 := by decide +kernel
  have k3 : ∀ a : Fin 60, gN hpC a.1 = nXl.getD a.1 0 := by decide +kernel
  have k4 : ∀ a : Fin 60, ∀ k : Fin 40, rX a.1 k.1 = none ∨ gR hpC a.1 k.1 = rX a.1 k.1 := by decide +kernel
  refine ⟨fun a ha => k1 ⟨a, ha⟩, fun a ha => k2 ⟨a, ha⟩, fun a ha => k3 ⟨a, ha⟩, fun a k b ha hb => ?_⟩
  have hk : k < 40 := by
    apply Classical.byContradiction
    intro z
    have k5 : ∀ a : Fin 60, ∀ q ∈ rXl.getD a.1 [], q.1 < 40 := by decide +kernel
    have key : ∀ (l : List (Nat × Nat)), (∀ q ∈ l, q.1 < 40) → glk l k = none := by
      intro l
      induction l with
      | nil => intro _; rfl
      | cons q l ih =>
        intro hl
        have hq := hl q List.mem_cons_self
        show (if Nat.beq q.1 k = true then some q.2 else glk l k) = none
        rw [if_neg (fun y => by have := Nat.eq_of_beq_eq_true y; omega)]
        exact ih (fun x hx => hl x (List.mem_cons_of_mem q hx))
    have hn : rX a k = none := key _ (k5 ⟨a, ha⟩)
    rw [hn] at hb; cases hb
  rcases k4 ⟨a, ha⟩ ⟨k, hk⟩ with z | z
  · have z : rX a k = none := z
    rw [z] at hb; cases hb
  · have z : gR hpC a k = rX a k := z
    rw [z]; exact hb
