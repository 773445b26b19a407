/-! The reference's constructor, stage by stage (printed by a program of ours) -/
def xml (v : Int32) : Int32 := if 16 ≤ v then (if v ≤ 200 then v else 200) else 16
def cI_43 (v : Int32) : Nat → Nat → Int32 := va_up (cI_42 v) 29 (fun _ => 0)
def cR_58 : Nat → Nat → Option Nat := va_up cR_57 29 (fun _ => none)
def cS_30 : List (Nat × Nat) := [(17, 7), (14, 6), (13, 7), (0, 192), (0, 192), (0, 192), (12, 10), (2, 4), (3, 4), (0, 16), (1, 16), (10, 13), (10, 13), (10, 13), (10, 13), (11, 3), (0, 64), (11, 3), (0, 64), (11, 3), (0, 64), (11, 3), (0, 64), (16, 7), (3, 4), (0, 4), (12, 10), (15, 3), (1, 65), (18, 37)]
def cH_71 (v : Int32) : xa_H := (cS_30, 1096, cI_43 v, cR_58)
def cI_44 (v : Int32) : Nat → Nat → Int32 := va_up (cI_43 v) 30 (fun _ => 0)
def cR_59 : Nat → Nat → Option Nat := va_up cR_58 30 (fun _ => none)
def cS_31 : List (Nat × Nat) := [(17, 7), (14, 6), (13, 7), (0, 192), (0, 192), (0, 192), (12, 10), (2, 4), (3, 4), (0, 16), (1, 16), (10, 13), (10, 13), (10, 13), (10, 13), (11, 3), (0, 64), (11, 3), (0, 64), (11, 3), (0, 64), (11, 3), (0, 64), (16, 7), (3, 4), (0, 4), (12, 10), (15, 3), (1, 65), (18, 37), (0, 192)]
def cH_72 (v : Int32) : xa_H := (cS_31, 1288, cI_44 v, cR_59)
def cR_60 : Nat → Nat → Option Nat := xa_u cR_59 29 1 (some 30)
def cH_73 (v : Int32) : xa_H := (cS_31, 1288, cI_44 v, cR_60)
def cI_45 (v : Int32) : Nat → Nat → Int32 := va_up (cI_44 v) 31 (fun _ => 0)
def cR_61 : Nat → Nat → Option Nat := va_up cR_60 31 (fun _ => none)
def cS_32 : List (Nat × Nat) := [(17, 7), (14, 6), (13, 7), (0, 192), (0, 192), (0, 192), (12, 10), (2, 4), (3, 4), (0, 16), (1, 16), (10, 13), (10, 13), (10, 13), (10, 13), (11, 3), (0, 64), (11, 3), (0, 64), (11, 3), (0, 64), (11, 3), (0, 64), (16, 7), (3, 4), (0, 4), (12, 10), (15, 3), (1, 65), (18, 37), (0, 192), (0, 192)]
def cH_74 (v : Int32) : xa_H := (cS_32, 1480, cI_45 v, cR_61)
def cR_62 : Nat → Nat → Option Nat := xa_u cR_61 29 2 (some 31)
def cH_75 (v : Int32) : xa_H := (cS_32, 1480, cI_45 v, cR_62)
def cI_46 (v : Int32) : Nat → Nat → Int32 := va_up (cI_45 v) 32 (fun _ => 0)
def cR_63 : Nat → Nat → Option Nat := va_up cR_62 32 (fun _ => none)
def cS_33 : List (Nat × Nat) := [(17, 7), (14, 6), (13, 7), (0, 192), (0, 192), (0, 192), (12, 10), (2, 4), (3, 4), (0, 16), (1, 16), (10, 13), (10, 13), (10, 13), (10, 13), (11, 3), (0, 64), (11, 3), (0, 64), (11, 3), (0, 64), (11, 3), (0, 64), (16, 7), (3, 4), (0, 4), (12, 10), (15, 3), (1, 65), (18, 37), (0, 192), (0, 192), (1, 192)]
def cH_76 (v : Int32) : xa_H := (cS_33, 1672, cI_46 v, cR_63)
def cR_64 : Nat → Nat → Option Nat := xa_u cR_63 29 3 (some 32)
def cH_77 (v : Int32) : xa_H := (cS_33, 1672, cI_46 v, cR_64)
def cI_47 (v : Int32) : Nat → Nat → Int32 := va_up (cI_46 v) 33 (fun _ => 0)
def cR_65 : Nat → Nat → Option Nat := va_up cR_64 33 (fun _ => none)
def cS_34 : List (Nat × Nat) := [(17, 7), (14, 6), (13, 7), (0, 192), (0, 192), (0, 192), (12, 10), (2, 4), (3, 4), (0, 16), (1, 16), (10, 13), (10, 13), (10, 13), (10, 13), (11, 3), (0, 64), (11, 3), (0, 64), (11, 3), (0, 64), (11, 3), (0, 64), (16, 7), (3, 4), (0, 4), (12, 10), (15, 3), (1, 65), (18, 37), (0, 192), (0, 192), (1, 192), (0, 256)]
def cH_78 (v : Int32) : xa_H := (cS_34, 1928, cI_47 v, cR_65)
def cR_66 : Nat → Nat → Option Nat := xa_u cR_65 29 4 (some 33)
def cH_79 (v : Int32) : xa_H := (cS_34, 1928, cI_47 v, cR_66)
def cI_48 (v : Int32) : Nat → Nat → Int32 := va_up (cI_47 v) 34 (fun _ => 0)
def cR_67 : Nat → Nat → Option Nat := va_up cR_66 34 (fun _ => none)
def cS_35 : List (Nat × Nat) := [(17, 7), (14, 6), (13, 7), (0, 192), (0, 192), (0, 192), (12, 10), (2, 4), (3, 4), (0, 16), (1, 16), (10, 13), (10, 13), (10, 13), (10, 13), (11, 3), (0, 64), (11, 3), (0, 64), (11, 3), (0, 64), (11, 3), (0, 64), (16, 7), (3, 4), (0, 4), (12, 10), (15, 3), (1, 65), (18, 37), (0, 192), (0, 192), (1, 192), (0, 256), (0, 4)]
def cH_80 (v : Int32) : xa_H := (cS_35, 1932, cI_48 v, cR_67)
def cR_68 : Nat → Nat → Option Nat := xa_u cR_67 29 5 (some 34)
def cH_81 (v : Int32) : xa_H := (cS_35, 1932, cI_48 v, cR_68)
def cI_49 (v : Int32) : Nat → Nat → Int32 := va_up (cI_48 v) 35 (fun _ => 0)
def cR_69 : Nat → Nat → Option Nat := va_up cR_68 35 (fun _ => none)
def cS_36 : List (Nat × Nat) := [(17, 7), (14, 6), (13, 7), (0, 192), (0, 192), (0, 192), (12, 10), (2, 4), (3, 4), (0, 16), (1, 16), (10, 13), (10, 13), (10, 13), (10, 13), (11, 3), (0, 64), (11, 3), (0, 64), (11, 3), (0, 64), (11, 3), (0, 64), (16, 7), (3, 4), (0, 4), (12, 10), (15, 3), (1, 65), (18, 37), (0, 192), (0, 192), (1, 192), (0, 256), (0, 4), (1, 4)]
def cH_82 (v : Int32) : xa_H := (cS_36, 1936, cI_49 v, cR_69)
def cR_70 : Nat → Nat → Option Nat := xa_u cR_69 29 6 (some 35)
def cH_83 (v : Int32) : xa_H := (cS_36, 1936, cI_49 v, cR_70)
def cI_50 (v : Int32) : Nat → Nat → Int32 := va_up (cI_49 v) 36 (fun _ => 0)
def cR_71 : Nat → Nat → Option Nat := va_up cR_70 36 (fun _ => none)
def cS_37 : List (Nat × Nat) := [(17, 7), (14, 6), (13, 7), (0, 192), (0, 192), (0, 192), (12, 10), (2, 4), (3, 4), (0, 16), (1, 16), (10, 13), (10, 13), (10, 13), (10, 13), (11, 3), (0, 64), (11, 3), (0, 64), (11, 3), (0, 64), (11, 3), (0, 64), (16, 7), (3, 4), (0, 4), (12, 10), (15, 3), (1, 65), (18, 37), (0, 192), (0, 192), (1, 192), (0, 256), (0, 4), (1, 4), (1, 65)]
def cH_84 (v : Int32) : xa_H := (cS_37, 2001, cI_50 v, cR_71)
def cR_72 : Nat → Nat → Option Nat := xa_u cR_71 29 8 (some 36)
def cH_85 (v : Int32) : xa_H := (cS_37, 2001, cI_50 v, cR_72)
def cI_51 (v : Int32) : Nat → Nat → Int32 := va_up (cI_50 v) 37 (fun _ => 0)
def cR_73 : Nat → Nat → Option Nat := va_up cR_72 37 (fun _ => none)
def cS_38 : List (Nat × Nat) := [(17, 7), (14, 6), (13, 7), (0, 192), (0, 192), (0, 192), (12, 10), (2, 4), (3, 4), (0, 16), (1, 16), (10, 13), (10, 13), (10, 13), (10, 13), (11, 3), (0, 64), (11, 3), (0, 64), (11, 3), (0, 64), (11, 3), (0, 64), (16, 7), (3, 4), (0, 4), (12, 10), (15, 3), (1, 65), (18, 37), (0, 192), (0, 192), (1, 192), (0, 256), (0, 4), (1, 4), (1, 65), (0, 8)]
def cH_86 (v : Int32) : xa_H := (cS_38, 2009, cI_51 v, cR_73)
def cR_74 : Nat → Nat → Option Nat := xa_u cR_73 29 9 (some 37)
def cH_87 (v : Int32) : xa_H := (cS_38, 2009, cI_51 v, cR_74)
def cI_52 (v : Int32) : Nat → Nat → Int32 := va_up (cI_51 v) 38 (fun _ => 0)
def cR_75 : Nat → Nat → Option Nat := va_up cR_74 38 (fun _ => none)
def cS_39 : List (Nat × Nat) := [(17, 7), (14, 6), (13, 7), (0, 192), (0, 192), (0, 192), (12, 10), (2, 4), (3, 4), (0, 16), (1, 16), (10, 13), (10, 13), (10, 13), (10, 13), (11, 3), (0, 64), (11, 3), (0, 64), (11, 3), (0, 64), (11, 3), (0, 64), (16, 7), (3, 4), (0, 4), (12, 10), (15, 3), (1, 65), (18, 37), (0, 192), (0, 192), (1, 192), (0, 256), (0, 4), (1, 4), (1, 65), (0, 8), (0, 64)]
def cH_88 (v : Int32) : xa_H := (cS_39, 2073, cI_52 v, cR_75)
def cR_76 : Nat → Nat → Option Nat := xa_u cR_75 29 11 (some 38)
def cH_89 (v : Int32) : xa_H := (cS_39, 2073, cI_52 v, cR_76)
def cI_53 (v : Int32) : Nat → Nat → Int32 := va_up (cI_52 v) 39 (fun _ => 0)
def cR_77 : Nat → Nat → Option Nat := va_up cR_76 39 (fun _ => none)
def cS_40 : List (Nat × Nat) := [(17, 7), (14, 6), (13, 7), (0, 192), (0, 192), (0, 192), (12, 10), (2, 4), (3, 4), (0, 16), (1, 16), (10, 13), (10, 13), (10, 13), (10, 13), (11, 3), (0, 64), (11, 3), (0, 64), (11, 3), (0, 64), (11, 3), (0, 64), (16, 7), (3, 4), (0, 4), (12, 10), (15, 3), (1, 65), (18, 37), (0, 192), (0, 192), (1, 192), (0, 256), (0, 4), (1, 4), (1, 65), (0, 8), (0, 64), (1, 64)]
def cH_90 (v : Int32) : xa_H := (cS_40, 2137, cI_53 v, cR_77)
def cR_78 : Nat → Nat → Option Nat := xa_u cR_77 29 12 (some 39)
def cH_91 (v : Int32) : xa_H := (cS_40, 2137, cI_53 v, cR_78)
def cI_54 (v : Int32) : Nat → Nat → Int32 := va_up (cI_53 v) 40 (fun _ => 0)
def cR_79 : Nat → Nat → Option Nat := va_up cR_78 40 (fun _ => none)
def cS_41 : List (Nat × Nat) := [(17, 7), (14, 6), (13, 7), (0, 192), (0, 192), (0, 192), (12, 10), (2, 4), (3, 4), (0, 16), (1, 16), (10, 13), (10, 13), (10, 13), (10, 13), (11, 3), (0, 64), (11, 3), (0, 64), (11, 3), (0, 64), (11, 3), (0, 64), (16, 7), (3, 4), (0, 4), (12, 10), (15, 3), (1, 65), (18, 37), (0, 192), (0, 192), (1, 192), (0, 256), (0, 4), (1, 4), (1, 65), (0, 8), (0, 64), (1, 64), (0, 16)]
def cH_92 (v : Int32) : xa_H := (cS_41, 2153, cI_54 v, cR_79)
def cR_80 : Nat → Nat → Option Nat := xa_u cR_79 29 15 (some 40)
def cH_93 (v : Int32) : xa_H := (cS_41, 2153, cI_54 v, cR_80)
def cI_55 (v : Int32) : Nat → Nat → Int32 := va_up (cI_54 v) 41 (fun _ => 0)
def cR_81 : Nat → Nat → Option Nat := va_up cR_80 41 (fun _ => none)
def cS_42 : List (Nat × Nat) := [(17, 7), (14, 6), (13, 7), (0, 192), (0, 192), (0, 192), (12, 10), (2, 4), (3, 4), (0, 16), (1, 16), (10, 13), (10, 13), (10, 13), (10, 13), (11, 3), (0, 64), (11, 3), (0, 64), (11, 3), (0, 64), (11, 3), (0, 64), (16, 7), (3, 4), (0, 4), (12, 10), (15, 3), (1, 65), (18, 37), (0, 192), (0, 192), (1, 192), (0, 256), (0, 4), (1, 4), (1, 65), (0, 8), (0, 64), (1, 64), (0, 16), (1, 16)]
def cH_94 (v : Int32) : xa_H := (cS_42, 2169, cI_55 v, cR_81)
def cR_82 : Nat → Nat → Option Nat := xa_u cR_81 29 16 (some 41)
def cH_95 (v : Int32) : xa_H := (cS_42, 2169, cI_55 v, cR_82)
def cI_56 (v : Int32) : Nat → Nat → Int32 := va_up (cI_55 v) 42 (fun _ => 0)
def cR_83 : Nat → Nat → Option Nat := va_up cR_82 42 (fun _ => none)
def cS_43 : List (Nat × Nat) := [(17, 7), (14, 6), (13, 7), (0, 192), (0, 192), (0, 192), (12, 10), (2, 4), (3, 4), (0, 16), (1, 16), (10, 13), (10, 13), (10, 13), (10, 13), (11, 3), (0, 64), (11, 3), (0, 64), (11, 3), (0, 64), (11, 3), (0, 64), (16, 7), (3, 4), (0, 4), (12, 10), (15, 3), (1, 65), (18, 37), (0, 192), (0, 192), (1, 192), (0, 256), (0, 4), (1, 4), (1, 65), (0, 8), (0, 64), (1, 64), (0, 16), (1, 16), (0, 4)]
def cH_96 (v : Int32) : xa_H := (cS_43, 2173, cI_56 v, cR_83)
def cR_84 : Nat → Nat → Option Nat := xa_u cR_83 29 17 (some 42)
def cH_97 (v : Int32) : xa_H := (cS_43, 2173, cI_56 v, cR_84)
def cI_57 (v : Int32) : Nat → Nat → Int32 := va_up (cI_56 v) 43 (fun _ => 0)
def cR_85 : Nat → Nat → Option Nat := va_up cR_84 43 (fun _ => none)
def cS_44 : List (Nat × Nat) := [(17, 7), (14, 6), (13, 7), (0, 192), (0, 192), (0, 192), (12, 10), (2, 4), (3, 4), (0, 16), (1, 16), (10, 13), (10, 13), (10, 13), (10, 13), (11, 3), (0, 64), (11, 3), (0, 64), (11, 3), (0, 64), (11, 3), (0, 64), (16, 7), (3, 4), (0, 4), (12, 10), (15, 3), (1, 65), (18, 37), (0, 192), (0, 192), (1, 192), (0, 256), (0, 4), (1, 4), (1, 65), (0, 8), (0, 64), (1, 64), (0, 16), (1, 16), (0, 4), (0, 4)]
def cH_98 (v : Int32) : xa_H := (cS_44, 2177, cI_57 v, cR_85)
def cR_86 : Nat → Nat → Option Nat := xa_u cR_85 29 18 (some 43)
def cH_99 (v : Int32) : xa_H := (cS_44, 2177, cI_57 v, cR_86)
def cI_58 (v : Int32) : Nat → Nat → Int32 := va_up (cI_57 v) 44 (fun _ => 0)
def cR_87 : Nat → Nat → Option Nat := va_up cR_86 44 (fun _ => none)
def cS_45 : List (Nat × Nat) := [(17, 7), (14, 6), (13, 7), (0, 192), (0, 192), (0, 192), (12, 10), (2, 4), (3, 4), (0, 16), (1, 16), (10, 13), (10, 13), (10, 13), (10, 13), (11, 3), (0, 64), (11, 3), (0, 64), (11, 3), (0, 64), (11, 3), (0, 64), (16, 7), (3, 4), (0, 4), (12, 10), (15, 3), (1, 65), (18, 37), (0, 192), (0, 192), (1, 192), (0, 256), (0, 4), (1, 4), (1, 65), (0, 8), (0, 64), (1, 64), (0, 16), (1, 16), (0, 4), (0, 4), (0, 4)]
def cH_100 (v : Int32) : xa_H := (cS_45, 2181, cI_58 v, cR_87)
def cR_88 : Nat → Nat → Option Nat := xa_u cR_87 29 19 (some 44)
def cH_101 (v : Int32) : xa_H := (cS_45, 2181, cI_58 v, cR_88)
def cI_59 (v : Int32) : Nat → Nat → Int32 := va_up (cI_58 v) 45 (fun _ => 0)
def cR_89 : Nat → Nat → Option Nat := va_up cR_88 45 (fun _ => none)
def cS_46 : List (Nat × Nat) := [(17, 7), (14, 6), (13, 7), (0, 192), (0, 192), (0, 192), (12, 10), (2, 4), (3, 4), (0, 16), (1, 16), (10, 13), (10, 13), (10, 13), (10, 13), (11, 3), (0, 64), (11, 3), (0, 64), (11, 3), (0, 64), (11, 3), (0, 64), (16, 7), (3, 4), (0, 4), (12, 10), (15, 3), (1, 65), (18, 37), (0, 192), (0, 192), (1, 192), (0, 256), (0, 4), (1, 4), (1, 65), (0, 8), (0, 64), (1, 64), (0, 16), (1, 16), (0, 4), (0, 4), (0, 4), (0, 4)]
def cH_102 (v : Int32) : xa_H := (cS_46, 2185, cI_59 v, cR_89)
def cR_90 : Nat → Nat → Option Nat := xa_u cR_89 29 20 (some 45)
def cH_103 (v : Int32) : xa_H := (cS_46, 2185, cI_59 v, cR_90)
def cI_60 (v : Int32) : Nat → Nat → Int32 := va_up (cI_59 v) 46 (fun _ => 0)
def cR_91 : Nat → Nat → Option Nat := va_up cR_90 46 (fun _ => none)
def cS_47 : List (Nat × Nat) := [(17, 7), (14, 6), (13, 7), (0, 192), (0, 192), (0, 192), (12, 10), (2, 4), (3, 4), (0, 16), (1, 16), (10, 13), (10, 13), (10, 13), (10, 13), (11, 3), (0, 64), (11, 3), (0, 64), (11, 3), (0, 64), (11, 3), (0, 64), (16, 7), (3, 4), (0, 4), (12, 10), (15, 3), (1, 65), (18, 37), (0, 192), (0, 192), (1, 192), (0, 256), (0, 4), (1, 4), (1, 65), (0, 8), (0, 64), (1, 64), (0, 16), (1, 16), (0, 4), (0, 4), (0, 4), (0, 4), (0, 4)]
def cH_104 (v : Int32) : xa_H := (cS_47, 2189, cI_60 v, cR_91)
def cR_92 : Nat → Nat → Option Nat := xa_u cR_91 29 21 (some 46)
def cH_105 (v : Int32) : xa_H := (cS_47, 2189, cI_60 v, cR_92)
def cI_61 (v : Int32) : Nat → Nat → Int32 := va_up (cI_60 v) 47 (fun _ => 0)
def cR_93 : Nat → Nat → Option Nat := va_up cR_92 47 (fun _ => none)
def cS_48 : List (Nat × Nat) := [(17, 7), (14, 6), (13, 7), (0, 192), (0, 192), (0, 192), (12, 10), (2, 4), (3, 4), (0, 16), (1, 16), (10, 13), (10, 13), (10, 13), (10, 13), (11, 3), (0, 64), (11, 3), (0, 64), (11, 3), (0, 64), (11, 3), (0, 64), (16, 7), (3, 4), (0, 4), (12, 10), (15, 3), (1, 65), (18, 37), (0, 192), (0, 192), (1, 192), (0, 256), (0, 4), (1, 4), (1, 65), (0, 8), (0, 64), (1, 64), (0, 16), (1, 16), (0, 4), (0, 4), (0, 4), (0, 4), (0, 4), (0, 4)]
def cH_106 (v : Int32) : xa_H := (cS_48, 2193, cI_61 v, cR_93)
def cR_94 : Nat → Nat → Option Nat := xa_u cR_93 29 22 (some 47)
def cH_107 (v : Int32) : xa_H := (cS_48, 2193, cI_61 v, cR_94)
def cI_62 (v : Int32) : Nat → Nat → Int32 := va_up (cI_61 v) 48 (fun _ => 0)
def cR_95 : Nat → Nat → Option Nat := va_up cR_94 48 (fun _ => none)
def cS_49 : List (Nat × Nat) := [(17, 7), (14, 6), (13, 7), (0, 192), (0, 192), (0, 192), (12, 10), (2, 4), (3, 4), (0, 16), (1, 16), (10, 13), (10, 13), (10, 13), (10, 13), (11, 3), (0, 64), (11, 3), (0, 64), (11, 3), (0, 64), (11, 3), (0, 64), (16, 7), (3, 4), (0, 4), (12, 10), (15, 3), (1, 65), (18, 37), (0, 192), (0, 192), (1, 192), (0, 256), (0, 4), (1, 4), (1, 65), (0, 8), (0, 64), (1, 64), (0, 16), (1, 16), (0, 4), (0, 4), (0, 4), (0, 4), (0, 4), (0, 4), (0, 4)]
def cH_108 (v : Int32) : xa_H := (cS_49, 2197, cI_62 v, cR_95)
def cR_96 : Nat → Nat → Option Nat := xa_u cR_95 29 23 (some 48)
def cH_109 (v : Int32) : xa_H := (cS_49, 2197, cI_62 v, cR_96)
def cI_63 (v : Int32) : Nat → Nat → Int32 := va_up (cI_62 v) 49 (fun _ => 0)
def cR_97 : Nat → Nat → Option Nat := va_up cR_96 49 (fun _ => none)
def cS_50 : List (Nat × Nat) := [(17, 7), (14, 6), (13, 7), (0, 192), (0, 192), (0, 192), (12, 10), (2, 4), (3, 4), (0, 16), (1, 16), (10, 13), (10, 13), (10, 13), (10, 13), (11, 3), (0, 64), (11, 3), (0, 64), (11, 3), (0, 64), (11, 3), (0, 64), (16, 7), (3, 4), (0, 4), (12, 10), (15, 3), (1, 65), (18, 37), (0, 192), (0, 192), (1, 192), (0, 256), (0, 4), (1, 4), (1, 65), (0, 8), (0, 64), (1, 64), (0, 16), (1, 16), (0, 4), (0, 4), (0, 4), (0, 4), (0, 4), (0, 4), (0, 4), (1, 4)]
def cH_110 (v : Int32) : xa_H := (cS_50, 2201, cI_63 v, cR_97)
def cR_98 : Nat → Nat → Option Nat := xa_u cR_97 29 24 (some 49)
def cH_111 (v : Int32) : xa_H := (cS_50, 2201, cI_63 v, cR_98)
def cI_64 (v : Int32) : Nat → Nat → Int32 := va_up (cI_63 v) 50 (fun _ => 0)
def cR_99 : Nat → Nat → Option Nat := va_up cR_98 50 (fun _ => none)
def cS_51 : List (Nat × Nat) := [(17, 7), (14, 6), (13, 7), (0, 192), (0, 192), (0, 192), (12, 10), (2, 4), (3, 4), (0, 16), (1, 16), (10, 13), (10, 13), (10, 13), (10, 13), (11, 3), (0, 64), (11, 3), (0, 64), (11, 3), (0, 64), (11, 3), (0, 64), (16, 7), (3, 4), (0, 4), (12, 10), (15, 3), (1, 65), (18, 37), (0, 192), (0, 192), (1, 192), (0, 256), (0, 4), (1, 4), (1, 65), (0, 8), (0, 64), (1, 64), (0, 16), (1, 16), (0, 4), (0, 4), (0, 4), (0, 4), (0, 4), (0, 4), (0, 4), (1, 4), (1, 4)]
def cH_112 (v : Int32) : xa_H := (cS_51, 2205, cI_64 v, cR_99)
def cR_100 : Nat → Nat → Option Nat := xa_u cR_99 29 25 (some 50)
def cH_113 (v : Int32) : xa_H := (cS_51, 2205, cI_64 v, cR_100)
def cI_65 (v : Int32) : Nat → Nat → Int32 := va_up (cI_64 v) 51 (fun _ => 0)
def cR_101 : Nat → Nat → Option Nat := va_up cR_100 51 (fun _ => none)
def cS_52 : List (Nat × Nat) := [(17, 7), (14, 6), (13, 7), (0, 192), (0, 192), (0, 192), (12, 10), (2, 4), (3, 4), (0, 16), (1, 16), (10, 13), (10, 13), (10, 13), (10, 13), (11, 3), (0, 64), (11, 3), (0, 64), (11, 3), (0, 64), (11, 3), (0, 64), (16, 7), (3, 4), (0, 4), (12, 10), (15, 3), (1, 65), (18, 37), (0, 192), (0, 192), (1, 192), (0, 256), (0, 4), (1, 4), (1, 65), (0, 8), (0, 64), (1, 64), (0, 16), (1, 16), (0, 4), (0, 4), (0, 4), (0, 4), (0, 4), (0, 4), (0, 4), (1, 4), (1, 4), (0, 4)]
def cH_114 (v : Int32) : xa_H := (cS_52, 2209, cI_65 v, cR_101)
def cR_102 : Nat → Nat → Option Nat := xa_u cR_101 29 26 (some 51)
def cH_115 (v : Int32) : xa_H := (cS_52, 2209, cI_65 v, cR_102)
def cI_66 (v : Int32) : Nat → Nat → Int32 := va_up (cI_65 v) 52 (fun _ => 0)
def cR_103 : Nat → Nat → Option Nat := va_up cR_102 52 (fun _ => none)
def cS_53 : List (Nat × Nat) := [(17, 7), (14, 6), (13, 7), (0, 192), (0, 192), (0, 192), (12, 10), (2, 4), (3, 4), (0, 16), (1, 16), (10, 13), (10, 13), (10, 13), (10, 13), (11, 3), (0, 64), (11, 3), (0, 64), (11, 3), (0, 64), (11, 3), (0, 64), (16, 7), (3, 4), (0, 4), (12, 10), (15, 3), (1, 65), (18, 37), (0, 192), (0, 192), (1, 192), (0, 256), (0, 4), (1, 4), (1, 65), (0, 8), (0, 64), (1, 64), (0, 16), (1, 16), (0, 4), (0, 4), (0, 4), (0, 4), (0, 4), (0, 4), (0, 4), (1, 4), (1, 4), (0, 4), (0, 4)]
def cH_116 (v : Int32) : xa_H := (cS_53, 2213, cI_66 v, cR_103)
def cR_104 : Nat → Nat → Option Nat := xa_u cR_103 29 27 (some 52)
def cH_117 (v : Int32) : xa_H := (cS_53, 2213, cI_66 v, cR_104)
def cI_67 (v : Int32) : Nat → Nat → Int32 := va_up (cI_66 v) 53 (fun _ => 0)
def cR_105 : Nat → Nat → Option Nat := va_up cR_104 53 (fun _ => none)
def cS_54 : List (Nat × Nat) := [(17, 7), (14, 6), (13, 7), (0, 192), (0, 192), (0, 192), (12, 10), (2, 4), (3, 4), (0, 16), (1, 16), (10, 13), (10, 13), (10, 13), (10, 13), (11, 3), (0, 64), (11, 3), (0, 64), (11, 3), (0, 64), (11, 3), (0, 64), (16, 7), (3, 4), (0, 4), (12, 10), (15, 3), (1, 65), (18, 37), (0, 192), (0, 192), (1, 192), (0, 256), (0, 4), (1, 4), (1, 65), (0, 8), (0, 64), (1, 64), (0, 16), (1, 16), (0, 4), (0, 4), (0, 4), (0, 4), (0, 4), (0, 4), (0, 4), (1, 4), (1, 4), (0, 4), (0, 4), (0, 4)]
def cH_118 (v : Int32) : xa_H := (cS_54, 2217, cI_67 v, cR_105)
def cR_106 : Nat → Nat → Option Nat := xa_u cR_105 29 28 (some 53)
def cH_119 (v : Int32) : xa_H := (cS_54, 2217, cI_67 v, cR_106)
def cI_68 (v : Int32) : Nat → Nat → Int32 := va_up (cI_67 v) 54 (fun _ => 0)
def cR_107 : Nat → Nat → Option Nat := va_up cR_106 54 (fun _ => none)
def cS_55 : List (Nat × Nat) := [(17, 7), (14, 6), (13, 7), (0, 192), (0, 192), (0, 192), (12, 10), (2, 4), (3, 4), (0, 16), (1, 16), (10, 13), (10, 13), (10, 13), (10, 13), (11, 3), (0, 64), (11, 3), (0, 64), (11, 3), (0, 64), (11, 3), (0, 64), (16, 7), (3, 4), (0, 4), (12, 10), (15, 3), (1, 65), (18, 37), (0, 192), (0, 192), (1, 192), (0, 256), (0, 4), (1, 4), (1, 65), (0, 8), (0, 64), (1, 64), (0, 16), (1, 16), (0, 4), (0, 4), (0, 4), (0, 4), (0, 4), (0, 4), (0, 4), (1, 4), (1, 4), (0, 4), (0, 4), (0, 4), (1, 4)]
def cH_120 (v : Int32) : xa_H := (cS_55, 2221, cI_68 v, cR_107)
def cR_108 : Nat → Nat → Option Nat := xa_u cR_107 29 29 (some 54)
def cH_121 (v : Int32) : xa_H := (cS_55, 2221, cI_68 v, cR_108)
def cI_69 (v : Int32) : Nat → Nat → Int32 := va_up (cI_68 v) 55 (fun _ => 0)
def cR_109 : Nat → Nat → Option Nat := va_up cR_108 55 (fun _ => none)
def cS_56 : List (Nat × Nat) := [(17, 7), (14, 6), (13, 7), (0, 192), (0, 192), (0, 192), (12, 10), (2, 4), (3, 4), (0, 16), (1, 16), (10, 13), (10, 13), (10, 13), (10, 13), (11, 3), (0, 64), (11, 3), (0, 64), (11, 3), (0, 64), (11, 3), (0, 64), (16, 7), (3, 4), (0, 4), (12, 10), (15, 3), (1, 65), (18, 37), (0, 192), (0, 192), (1, 192), (0, 256), (0, 4), (1, 4), (1, 65), (0, 8), (0, 64), (1, 64), (0, 16), (1, 16), (0, 4), (0, 4), (0, 4), (0, 4), (0, 4), (0, 4), (0, 4), (1, 4), (1, 4), (0, 4), (0, 4), (0, 4), (1, 4), (0, 4)]
def cH_122 (v : Int32) : xa_H := (cS_56, 2225, cI_69 v, cR_109)
def cR_110 : Nat → Nat → Option Nat := xa_u cR_109 29 35 (some 55)
def cH_123 (v : Int32) : xa_H := (cS_56, 2225, cI_69 v, cR_110)
def cI_70 (v : Int32) : Nat → Nat → Int32 := va_up (cI_69 v) 56 (fun _ => 0)
def cR_111 : Nat → Nat → Option Nat := va_up cR_110 56 (fun _ => none)
def cS_57 : List (Nat × Nat) := [(17, 7), (14, 6), (13, 7), (0, 192), (0, 192), (0, 192), (12, 10), (2, 4), (3, 4), (0, 16), (1, 16), (10, 13), (10, 13), (10, 13), (10, 13), (11, 3), (0, 64), (11, 3), (0, 64), (11, 3), (0, 64), (11, 3), (0, 64), (16, 7), (3, 4), (0, 4), (12, 10), (15, 3), (1, 65), (18, 37), (0, 192), (0, 192), (1, 192), (0, 256), (0, 4), (1, 4), (1, 65), (0, 8), (0, 64), (1, 64), (0, 16), (1, 16), (0, 4), (0, 4), (0, 4), (0, 4), (0, 4), (0, 4), (0, 4), (1, 4), (1, 4), (0, 4), (0, 4), (0, 4), (1, 4), (0, 4), (0, 4)]
def cH_124 (v : Int32) : xa_H := (cS_57, 2229, cI_70 v, cR_111)
def cR_112 : Nat → Nat → Option Nat := xa_u cR_111 29 36 (some 56)
def cH_125 (v : Int32) : xa_H := (cS_57, 2229, cI_70 v, cR_112)
def cI_71 (v : Int32) : Nat → Nat → Int32 := xa_u (cI_70 v) 29 0 (xml v)
def cH_126 (v : Int32) : xa_H := (cS_57, 2229, cI_71 v, cR_112)
def cI_72 (v : Int32) : Nat → Nat → Int32 := xa_u (cI_71 v) 44 0 1
def cH_127 (v : Int32) : xa_H := (cS_57, 2229, cI_72 v, cR_112)
def cI_73 (v : Int32) : Nat → Nat → Int32 := xa_u (cI_72 v) 45 0 1
def cH_128 (v : Int32) : xa_H := (cS_57, 2229, cI_73 v, cR_112)
def cI_74 (v : Int32) : Nat → Nat → Int32 := xa_u (cI_73 v) 44 1 1
def cH_129 (v : Int32) : xa_H := (cS_57, 2229, cI_74 v, cR_112)
def cI_75 (v : Int32) : Nat → Nat → Int32 := xa_u (cI_74 v) 45 1 1
def cH_130 (v : Int32) : xa_H := (cS_57, 2229, cI_75 v, cR_112)
def cI_76 (v : Int32) : Nat → Nat → Int32 := xa_u (cI_75 v) 44 2 1
def cH_131 (v : Int32) : xa_H := (cS_57, 2229, cI_76 v, cR_112)
def cI_77 (v : Int32) : Nat → Nat → Int32 := xa_u (cI_76 v) 45 2 1
def cH_132 (v : Int32) : xa_H := (cS_57, 2229, cI_77 v, cR_112)
def cI_78 (v : Int32) : Nat → Nat → Int32 := xa_u (cI_77 v) 44 3 1
def cH_133 (v : Int32) : xa_H := (cS_57, 2229, cI_78 v, cR_112)
def cI_79 (v : Int32) : Nat → Nat → Int32 := xa_u (cI_78 v) 45 3 1
def cH_134 (v : Int32) : xa_H := (cS_57, 2229, cI_79 v, cR_112)
def SupR (R : Nat → Nat → Option Nat) : Prop := ∀ a k, R a k ≠ none → a < 57 ∧ k < 40
theorem sup_u {R : Nat → Nat → Option Nat} {a k j : Nat} (h : SupR R) (ha : a < 57) (hk : k < 40) : SupR (xa_u R a k (some j)) := by
  intro b i hne
  by_cases hb : b = a
  · by_cases hi : i = k
    · subst hb; subst hi; exact ⟨ha, hk⟩
    · refine h b i ?_
      intro z
      apply hne
      show (if b = a then va_up (R a) k (some j) else R b) i = none
      rw [if_pos hb]
      show (if i = k then _ else R a i) = none
      rw [if_neg hi, ← hb]; exact z
  · refine h b i ?_
    intro z
    apply hne
    show (if b = a then va_up (R a) k (some j) else R b) i = none
    rw [if_neg hb]; exact z
theorem sup_p {R : Nat → Nat → Option Nat} {n : Nat} (h : SupR R) : SupR (va_up R n (fun _ => none)) := by
  intro b i hne
  by_cases hb : b = n
  · exfalso
    apply hne
    show (if b = n then (fun _ => none) else R b) i = none
    rw [if_pos hb]
  · refine h b i ?_
    intro z
    apply hne
    show (if b = n then (fun _ => none) else R b) i = none
    rw [if_neg hb]; exact z
theorem sR_0 : SupR cR_0 := fun a k h => absurd rfl h
theorem sR_1 : SupR cR_1 := sup_p sR_0
theorem sR_2 : SupR cR_2 := sup_p sR_1
theorem sR_3 : SupR cR_3 := sup_p sR_2
theorem sR_4 : SupR cR_4 := sup_p sR_3
theorem sR_5 : SupR cR_5 := sup_u sR_4 (by decide) (by decide)
theorem sR_6 : SupR cR_6 := sup_p sR_5
theorem sR_7 : SupR cR_7 := sup_u sR_6 (by decide) (by decide)
theorem sR_8 : SupR cR_8 := sup_p sR_7
theorem sR_9 : SupR cR_9 := sup_u sR_8 (by decide) (by decide)
theorem sR_10 : SupR cR_10 := sup_p sR_9
theorem sR_11 : SupR cR_11 := sup_u sR_10 (by decide) (by decide)
theorem sR_12 : SupR cR_12 := sup_u sR_11 (by decide) (by decide)
theorem sR_13 : SupR cR_13 := sup_p sR_12
theorem sR_14 : SupR cR_14 := sup_u sR_13 (by decide) (by decide)
theorem sR_15 : SupR cR_15 := sup_p sR_14
theorem sR_16 : SupR cR_16 := sup_u sR_15 (by decide) (by decide)
theorem sR_17 : SupR cR_17 := sup_p sR_16
theorem sR_18 : SupR cR_18 := sup_u sR_17 (by decide) (by decide)
theorem sR_19 : SupR cR_19 := sup_p sR_18
theorem sR_20 : SupR cR_20 := sup_u sR_19 (by decide) (by decide)
theorem sR_21 : SupR cR_21 := sup_p sR_20
theorem sR_22 : SupR cR_22 := sup_u sR_21 (by decide) (by decide)
theorem sR_23 : SupR cR_23 := sup_p sR_22
theorem sR_24 : SupR cR_24 := sup_u sR_23 (by decide) (by decide)
theorem sR_25 : SupR cR_25 := sup_p sR_24
theorem sR_26 : SupR cR_26 := sup_u sR_25 (by decide) (by decide)
theorem sR_27 : SupR cR_27 := sup_p sR_26
theorem sR_28 : SupR cR_28 := sup_u sR_27 (by decide) (by decide)
theorem sR_29 : SupR cR_29 := sup_p sR_28
theorem sR_30 : SupR cR_30 := sup_p sR_29
theorem sR_31 : SupR cR_31 := sup_u sR_30 (by decide) (by decide)
theorem sR_32 : SupR cR_32 := sup_u sR_31 (by decide) (by decide)
theorem sR_33 : SupR cR_33 := sup_p sR_32
theorem sR_34 : SupR cR_34 := sup_p sR_33
theorem sR_35 : SupR cR_35 := sup_u sR_34 (by decide) (by decide)
theorem sR_36 : SupR cR_36 := sup_u sR_35 (by decide) (by decide)
theorem sR_37 : SupR cR_37 := sup_p sR_36
theorem sR_38 : SupR cR_38 := sup_p sR_37
theorem sR_39 : SupR cR_39 := sup_u sR_38 (by decide) (by decide)
theorem sR_40 : SupR cR_40 := sup_u sR_39 (by decide) (by decide)
theorem sR_41 : SupR cR_41 := sup_p sR_40
theorem sR_42 : SupR cR_42 := sup_p sR_41
theorem sR_43 : SupR cR_43 := sup_u sR_42 (by decide) (by decide)
theorem sR_44 : SupR cR_44 := sup_u sR_43 (by decide) (by decide)
theorem sR_45 : SupR cR_45 := sup_u sR_44 (by decide) (by decide)
theorem sR_46 : SupR cR_46 := sup_p sR_45
theorem sR_47 : SupR cR_47 := sup_p sR_46
theorem sR_48 : SupR cR_48 := sup_u sR_47 (by decide) (by decide)
theorem sR_49 : SupR cR_49 := sup_p sR_48
theorem sR_50 : SupR cR_50 := sup_u sR_49 (by decide) (by decide)
theorem sR_51 : SupR cR_51 := sup_u sR_50 (by decide) (by decide)
theorem sR_52 : SupR cR_52 := sup_p sR_51
theorem sR_53 : SupR cR_53 := sup_u sR_52 (by decide) (by decide)
theorem sR_54 : SupR cR_54 := sup_p sR_53
theorem sR_55 : SupR cR_55 := sup_p sR_54
theorem sR_56 : SupR cR_56 := sup_u sR_55 (by decide) (by decide)
theorem sR_57 : SupR cR_57 := sup_u sR_56 (by decide) (by decide)
theorem sR_58 : SupR cR_58 := sup_p sR_57
theorem sR_59 : SupR cR_59 := sup_p sR_58
theorem sR_60 : SupR cR_60 := sup_u sR_59 (by decide) (by decide)
theorem sR_61 : SupR cR_61 := sup_p sR_60
theorem sR_62 : SupR cR_62 := sup_u sR_61 (by decide) (by decide)
theorem sR_63 : SupR cR_63 := sup_p sR_62
theorem sR_64 : SupR cR_64 := sup_u sR_63 (by decide) (by decide)
theorem sR_65 : SupR cR_65 := sup_p sR_64
theorem sR_66 : SupR cR_66 := sup_u sR_65 (by decide) (by decide)
theorem sR_67 : SupR cR_67 := sup_p sR_66
theorem sR_68 : SupR cR_68 := sup_u sR_67 (by decide) (by decide)
theorem sR_69 : SupR cR_69 := sup_p sR_68
theorem sR_70 : SupR cR_70 := sup_u sR_69 (by decide) (by decide)
theorem sR_71 : SupR cR_71 := sup_p sR_70
theorem sR_72 : SupR cR_72 := sup_u sR_71 (by decide) (by decide)
theorem sR_73 : SupR cR_73 := sup_p sR_72
theorem sR_74 : SupR cR_74 := sup_u sR_73 (by decide) (by decide)
theorem sR_75 : SupR cR_75 := sup_p sR_74
theorem sR_76 : SupR cR_76 := sup_u sR_75 (by decide) (by decide)
theorem sR_77 : SupR cR_77 := sup_p sR_76
theorem sR_78 : SupR cR_78 := sup_u sR_77 (by decide) (by decide)
theorem sR_79 : SupR cR_79 := sup_p sR_78
theorem sR_80 : SupR cR_80 := sup_u sR_79 (by decide) (by decide)
theorem sR_81 : SupR cR_81 := sup_p sR_80
theorem sR_82 : SupR cR_82 := sup_u sR_81 (by decide) (by decide)
theorem sR_83 : SupR cR_83 := sup_p sR_82
theorem sR_84 : SupR cR_84 := sup_u sR_83 (by decide) (by decide)
theorem sR_85 : SupR cR_85 := sup_p sR_84
theorem sR_86 : SupR cR_86 := sup_u sR_85 (by decide) (by decide)
theorem sR_87 : SupR cR_87 := sup_p sR_86
theorem sR_88 : SupR cR_88 := sup_u sR_87 (by decide) (by decide)
theorem sR_89 : SupR cR_89 := sup_p sR_88
theorem sR_90 : SupR cR_90 := sup_u sR_89 (by decide) (by decide)
theorem sR_91 : SupR cR_91 := sup_p sR_90
theorem sR_92 : SupR cR_92 := sup_u sR_91 (by decide) (by decide)
theorem sR_93 : SupR cR_93 := sup_p sR_92
theorem sR_94 : SupR cR_94 := sup_u sR_93 (by decide) (by decide)
theorem sR_95 : SupR cR_95 := sup_p sR_94
theorem sR_96 : SupR cR_96 := sup_u sR_95 (by decide) (by decide)
theorem sR_97 : SupR cR_97 := sup_p sR_96
theorem sR_98 : SupR cR_98 := sup_u sR_97 (by decide) (by decide)
theorem sR_99 : SupR cR_99 := sup_p sR_98
theorem sR_100 : SupR cR_100 := sup_u sR_99 (by decide) (by decide)
theorem sR_101 : SupR cR_101 := sup_p sR_100
theorem sR_102 : SupR cR_102 := sup_u sR_101 (by decide) (by decide)
theorem sR_103 : SupR cR_103 := sup_p sR_102
theorem sR_104 : SupR cR_104 := sup_u sR_103 (by decide) (by decide)
theorem sR_105 : SupR cR_105 := sup_p sR_104
theorem sR_106 : SupR cR_106 := sup_u sR_105 (by decide) (by decide)
theorem sR_107 : SupR cR_107 := sup_p sR_106
theorem sR_108 : SupR cR_108 := sup_u sR_107 (by decide) (by decide)
theorem sR_109 : SupR cR_109 := sup_p sR_108
theorem sR_110 : SupR cR_110 := sup_u sR_109 (by decide) (by decide)
theorem sR_111 : SupR cR_111 := sup_p sR_110
theorem sR_112 : SupR cR_112 := sup_u sR_111 (by decide) (by decide)
theorem rc_far (a k : Nat) : RC none (fun _ => none) (a + 57) k = none := rfl
theorem rc_0 (k : Nat) : RC none (fun _ => none) 0 (k + 40) = none := rfl
theorem rc_1 (k : Nat) : RC none (fun _ => none) 1 (k + 40) = none := rfl
theorem rc_2 (k : Nat) : RC none (fun _ => none) 2 (k + 40) = none := rfl
theorem rc_3 (k : Nat) : RC none (fun _ => none) 3 (k + 40) = none := rfl
theorem rc_4 (k : Nat) : RC none (fun _ => none) 4 (k + 40) = none := rfl
theorem rc_5 (k : Nat) : RC none (fun _ => none) 5 (k + 40) = none := rfl
theorem rc_6 (k : Nat) : RC none (fun _ => none) 6 (k + 40) = none := rfl
theorem rc_7 (k : Nat) : RC none (fun _ => none) 7 (k + 40) = none := rfl
theorem rc_8 (k : Nat) : RC none (fun _ => none) 8 (k + 40) = none := rfl
theorem rc_9 (k : Nat) : RC none (fun _ => none) 9 (k + 40) = none := rfl
theorem rc_10 (k : Nat) : RC none (fun _ => none) 10 (k + 40) = none := rfl
theorem rc_11 (k : Nat) : RC none (fun _ => none) 11 (k + 40) = none := rfl
theorem rc_12 (k : Nat) : RC none (fun _ => none) 12 (k + 40) = none := rfl
theorem rc_13 (k : Nat) : RC none (fun _ => none) 13 (k + 40) = none := rfl
theorem rc_14 (k : Nat) : RC none (fun _ => none) 14 (k + 40) = none := rfl
theorem rc_15 (k : Nat) : RC none (fun _ => none) 15 (k + 40) = none := rfl
theorem rc_16 (k : Nat) : RC none (fun _ => none) 16 (k + 40) = none := rfl
theorem rc_17 (k : Nat) : RC none (fun _ => none) 17 (k + 40) = none := rfl
theorem rc_18 (k : Nat) : RC none (fun _ => none) 18 (k + 40) = none := rfl
theorem rc_19 (k : Nat) : RC none (fun _ => none) 19 (k + 40) = none := rfl
theorem rc_20 (k : Nat) : RC none (fun _ => none) 20 (k + 40) = none := rfl
theorem rc_21 (k : Nat) : RC none (fun _ => none) 21 (k + 40) = none := rfl
theorem rc_22 (k : Nat) : RC none (fun _ => none) 22 (k + 40) = none := rfl
theorem rc_23 (k : Nat) : RC none (fun _ => none) 23 (k + 40) = none := rfl
theorem rc_24 (k : Nat) : RC none (fun _ => none) 24 (k + 40) = none := rfl
theorem rc_25 (k : Nat) : RC none (fun _ => none) 25 (k + 40) = none := rfl
theorem rc_26 (k : Nat) : RC none (fun _ => none) 26 (k + 40) = none := rfl
theorem rc_27 (k : Nat) : RC none (fun _ => none) 27 (k + 40) = none := rfl
theorem rc_28 (k : Nat) : RC none (fun _ => none) 28 (k + 40) = none := rfl
theorem rc_29 (k : Nat) : RC none (fun _ => none) 29 (k + 40) = none := rfl
theorem rc_30 (k : Nat) : RC none (fun _ => none) 30 (k + 40) = none := rfl
theorem rc_31 (k : Nat) : RC none (fun _ => none) 31 (k + 40) = none := rfl
theorem rc_32 (k : Nat) : RC none (fun _ => none) 32 (k + 40) = none := rfl
theorem rc_33 (k : Nat) : RC none (fun _ => none) 33 (k + 40) = none := rfl
theorem rc_34 (k : Nat) : RC none (fun _ => none) 34 (k + 40) = none := rfl
theorem rc_35 (k : Nat) : RC none (fun _ => none) 35 (k + 40) = none := rfl
theorem rc_36 (k : Nat) : RC none (fun _ => none) 36 (k + 40) = none := rfl
theorem rc_37 (k : Nat) : RC none (fun _ => none) 37 (k + 40) = none := rfl
theorem rc_38 (k : Nat) : RC none (fun _ => none) 38 (k + 40) = none := rfl
theorem rc_39 (k : Nat) : RC none (fun _ => none) 39 (k + 40) = none := rfl
theorem rc_40 (k : Nat) : RC none (fun _ => none) 40 (k + 40) = none := rfl
theorem rc_41 (k : Nat) : RC none (fun _ => none) 41 (k + 40) = none := rfl
theorem rc_42 (k : Nat) : RC none (fun _ => none) 42 (k + 40) = none := rfl
theorem rc_43 (k : Nat) : RC none (fun _ => none) 43 (k + 40) = none := rfl
theorem rc_44 (k : Nat) : RC none (fun _ => none) 44 (k + 40) = none := rfl
theorem rc_45 (k : Nat) : RC none (fun _ => none) 45 (k + 40) = none := rfl
theorem rc_46 (k : Nat) : RC none (fun _ => none) 46 (k + 40) = none := rfl
theorem rc_47 (k : Nat) : RC none (fun _ => none) 47 (k + 40) = none := rfl
theorem rc_48 (k : Nat) : RC none (fun _ => none) 48 (k + 40) = none := rfl
theorem rc_49 (k : Nat) : RC none (fun _ => none) 49 (k + 40) = none := rfl
theorem rc_50 (k : Nat) : RC none (fun _ => none) 50 (k + 40) = none := rfl
theorem rc_51 (k : Nat) : RC none (fun _ => none) 51 (k + 40) = none := rfl
theorem rc_52 (k : Nat) : RC none (fun _ => none) 52 (k + 40) = none := rfl
theorem rc_53 (k : Nat) : RC none (fun _ => none) 53 (k + 40) = none := rfl
theorem rc_54 (k : Nat) : RC none (fun _ => none) 54 (k + 40) = none := rfl
theorem rc_55 (k : Nat) : RC none (fun _ => none) 55 (k + 40) = none := rfl
theorem rc_56 (k : Nat) : RC none (fun _ => none) 56 (k + 40) = none := rfl
theorem rc_row (a k : Nat) (ha : a < 57) : RC none (fun _ => none) a (k + 40) = none := by
  rcases Nat.lt_or_ge a 1 with h0 | h0
  · obtain rfl : a = 0 := by omega
    exact rc_0 k
  rcases Nat.lt_or_ge a 2 with h1 | h1
  · obtain rfl : a = 1 := by omega
    exact rc_1 k
  rcases Nat.lt_or_ge a 3 with h2 | h2
  · obtain rfl : a = 2 := by omega
    exact rc_2 k
  rcases Nat.lt_or_ge a 4 with h3 | h3
  · obtain rfl : a = 3 := by omega
    exact rc_3 k
  rcases Nat.lt_or_ge a 5 with h4 | h4
  · obtain rfl : a = 4 := by omega
    exact rc_4 k
  rcases Nat.lt_or_ge a 6 with h5 | h5
  · obtain rfl : a = 5 := by omega
    exact rc_5 k
  rcases Nat.lt_or_ge a 7 with h6 | h6
  · obtain rfl : a = 6 := by omega
    exact rc_6 k
  rcases Nat.lt_or_ge a 8 with h7 | h7
  · obtain rfl : a = 7 := by omega
    exact rc_7 k
  rcases Nat.lt_or_ge a 9 with h8 | h8
  · obtain rfl : a = 8 := by omega
    exact rc_8 k
  rcases Nat.lt_or_ge a 10 with h9 | h9
  · obtain rfl : a = 9 := by omega
    exact rc_9 k
  rcases Nat.lt_or_ge a 11 with h10 | h10
  · obtain rfl : a = 10 := by omega
    exact rc_10 k
  rcases Nat.lt_or_ge a 12 with h11 | h11
  · obtain rfl : a = 11 := by omega
    exact rc_11 k
  rcases Nat.lt_or_ge a 13 with h12 | h12
  · obtain rfl : a = 12 := by omega
    exact rc_12 k
  rcases Nat.lt_or_ge a 14 with h13 | h13
  · obtain rfl : a = 13 := by omega
    exact rc_13 k
  rcases Nat.lt_or_ge a 15 with h14 | h14
  · obtain rfl : a = 14 := by omega
    exact rc_14 k
  rcases Nat.lt_or_ge a 16 with h15 | h15
  · obtain rfl : a = 15 := by omega
    exact rc_15 k
  rcases Nat.lt_or_ge a 17 with h16 | h16
  · obtain rfl : a = 16 := by omega
    exact rc_16 k
  rcases Nat.lt_or_ge a 18 with h17 | h17
  · obtain rfl : a = 17 := by omega
    exact rc_17 k
  rcases Nat.lt_or_ge a 19 with h18 | h18
  · obtain rfl : a = 18 := by omega
    exact rc_18 k
  rcases Nat.lt_or_ge a 20 with h19 | h19
  · obtain rfl : a = 19 := by omega
    exact rc_19 k
  rcases Nat.lt_or_ge a 21 with h20 | h20
  · obtain rfl : a = 20 := by omega
    exact rc_20 k
  rcases Nat.lt_or_ge a 22 with h21 | h21
  · obtain rfl : a = 21 := by omega
    exact rc_21 k
  rcases Nat.lt_or_ge a 23 with h22 | h22
  · obtain rfl : a = 22 := by omega
    exact rc_22 k
  rcases Nat.lt_or_ge a 24 with h23 | h23
  · obtain rfl : a = 23 := by omega
    exact rc_23 k
  rcases Nat.lt_or_ge a 25 with h24 | h24
  · obtain rfl : a = 24 := by omega
    exact rc_24 k
  rcases Nat.lt_or_ge a 26 with h25 | h25
  · obtain rfl : a = 25 := by omega
    exact rc_25 k
  rcases Nat.lt_or_ge a 27 with h26 | h26
  · obtain rfl : a = 26 := by omega
    exact rc_26 k
  rcases Nat.lt_or_ge a 28 with h27 | h27
  · obtain rfl : a = 27 := by omega
    exact rc_27 k
  rcases Nat.lt_or_ge a 29 with h28 | h28
  · obtain rfl : a = 28 := by omega
    exact rc_28 k
  rcases Nat.lt_or_ge a 30 with h29 | h29
  · obtain rfl : a = 29 := by omega
    exact rc_29 k
  rcases Nat.lt_or_ge a 31 with h30 | h30
  · obtain rfl : a = 30 := by omega
    exact rc_30 k
  rcases Nat.lt_or_ge a 32 with h31 | h31
  · obtain rfl : a = 31 := by omega
    exact rc_31 k
  rcases Nat.lt_or_ge a 33 with h32 | h32
  · obtain rfl : a = 32 := by omega
    exact rc_32 k
  rcases Nat.lt_or_ge a 34 with h33 | h33
  · obtain rfl : a = 33 := by omega
    exact rc_33 k
  rcases Nat.lt_or_ge a 35 with h34 | h34
  · obtain rfl : a = 34 := by omega
    exact rc_34 k
  rcases Nat.lt_or_ge a 36 with h35 | h35
  · obtain rfl : a = 35 := by omega
    exact rc_35 k
  rcases Nat.lt_or_ge a 37 with h36 | h36
  · obtain rfl : a = 36 := by omega
    exact rc_36 k
  rcases Nat.lt_or_ge a 38 with h37 | h37
  · obtain rfl : a = 37 := by omega
    exact rc_37 k
  rcases Nat.lt_or_ge a 39 with h38 | h38
  · obtain rfl : a = 38 := by omega
    exact rc_38 k
  rcases Nat.lt_or_ge a 40 with h39 | h39
  · obtain rfl : a = 39 := by omega
    exact rc_39 k
  rcases Nat.lt_or_ge a 41 with h40 | h40
  · obtain rfl : a = 40 := by omega
    exact rc_40 k
  rcases Nat.lt_or_ge a 42 with h41 | h41
  · obtain rfl : a = 41 := by omega
    exact rc_41 k
  rcases Nat.lt_or_ge a 43 with h42 | h42
  · obtain rfl : a = 42 := by omega
    exact rc_42 k
  rcases Nat.lt_or_ge a 44 with h43 | h43
  · obtain rfl : a = 43 := by omega
    exact rc_43 k
  rcases Nat.lt_or_ge a 45 with h44 | h44
  · obtain rfl : a = 44 := by omega
    exact rc_44 k
  rcases Nat.lt_or_ge a 46 with h45 | h45
  · obtain rfl : a = 45 := by omega
    exact rc_45 k
  rcases Nat.lt_or_ge a 47 with h46 | h46
  · obtain rfl : a = 46 := by omega
    exact rc_46 k
  rcases Nat.lt_or_ge a 48 with h47 | h47
  · obtain rfl : a = 47 := by omega
    exact rc_47 k
  rcases Nat.lt_or_ge a 49 with h48 | h48
  · obtain rfl : a = 48 := by omega
    exact rc_48 k
  rcases Nat.lt_or_ge a 50 with h49 | h49
  · obtain rfl : a = 49 := by omega
    exact rc_49 k
  rcases Nat.lt_or_ge a 51 with h50 | h50
  · obtain rfl : a = 50 := by omega
    exact rc_50 k
  rcases Nat.lt_or_ge a 52 with h51 | h51
  · obtain rfl : a = 51 := by omega
    exact rc_51 k
  rcases Nat.lt_or_ge a 53 with h52 | h52
  · obtain rfl : a = 52 := by omega
    exact rc_52 k
  rcases Nat.lt_or_ge a 54 with h53 | h53
  · obtain rfl : a = 53 := by omega
    exact rc_53 k
  rcases Nat.lt_or_ge a 55 with h54 | h54
  · obtain rfl : a = 54 := by omega
    exact rc_54 k
  rcases Nat.lt_or_ge a 56 with h55 | h55
  · obtain rfl : a = 55 := by omega
    exact rc_55 k
  rcases Nat.lt_or_ge a 57 with h56 | h56
  · obtain rfl : a = 56 := by omega
    exact rc_56 k
  omega
theorem cR_in : (List.range 57).all (fun a => (List.range 40).all (fun k => decide (cR_112 a k = RC none (fun _ => none) a k))) = true := by decide +kernel
theorem cR_fin : cR_112 = RC none (fun _ => none) := by
  funext a k
  by_cases ha : a < 57
  · by_cases hk : k < 40
    · exact of_decide_eq_true (List.all_eq_true.mp (List.all_eq_true.mp cR_in a (List.mem_range.mpr ha)) k (List.mem_range.mpr hk))
    · obtain ⟨q, rfl⟩ : ∃ q, k = q + 40 := ⟨k - 40, by omega⟩
      rw [rc_row a q ha]
      cases hr : cR_112 a (q + 40) with
      | none => rfl
      | some z => exact absurd (sR_112 a (q + 40) (by rw [hr]; exact fun z => by cases z)).2 hk
  · obtain ⟨q, rfl⟩ : ∃ q, a = q + 57 := ⟨a - 57, by omega⟩
    rw [rc_far]
    cases hr : cR_112 (q + 57) k with
    | none => rfl
    | some z => exact absurd (sR_112 (q + 57) k (by rw [hr]; exact fun z => by cases z)).1 ha
theorem cH_fin (v : Int32) : cH_134 v = hh (cI_79 v, none, fun _ => none) := by
  show (cS_57, 2229, cI_79 v, cR_112) = (xL_s, xL_n, cI_79 v, RC none (fun _ => none))
  rw [cR_fin]
  rfl
set_option maxRecDepth 100000 in
theorem K_16 {X : Nat × (Nat → Int32)} (v : Int32) (S' : St) (hG : G_113 (cI_79 v, none, fun _ => none) = some ((), S')) : Ev X 2 112 0 [.ref 29, .int v, .retAddr 0] [] (cH_71 v) (none, hh S') := by
  refine Ev.b (pc' := 4) (L' := [.ref 29, .int v, .retAddr 0]) (st' := []) (h' := cH_71 v) 2 (fun n => rfl) ?_
  refine Ev.g (c := 30 < 1000 ∧ ¬ (192 : Int32) < 0 ∧ (192 : Int32).toNatClampNeg ≤ 1000) (p1 := 10) (L1 := [.ref 29, .int v, .retAddr 0]) (s1 := [.ref 30, .ref 29]) (h1 := cH_72 v) 3 (fun n => rfl) (by decide) ?_
  refine Ev.b (pc' := 13) (L' := [.ref 29, .int v, .retAddr 0]) (st' := []) (h' := cH_73 v) 1 (fun n => rfl) ?_
  refine Ev.g (c := 31 < 1000 ∧ ¬ (192 : Int32) < 0 ∧ (192 : Int32).toNatClampNeg ≤ 1000) (p1 := 19) (L1 := [.ref 29, .int v, .retAddr 0]) (s1 := [.ref 31, .ref 29]) (h1 := cH_74 v) 3 (fun n => rfl) (by decide) ?_
  refine Ev.b (pc' := 22) (L' := [.ref 29, .int v, .retAddr 0]) (st' := []) (h' := cH_75 v) 1 (fun n => rfl) ?_
  refine Ev.g (c := 32 < 1000 ∧ ¬ (192 : Int32) < 0 ∧ (192 : Int32).toNatClampNeg ≤ 1000) (p1 := 28) (L1 := [.ref 29, .int v, .retAddr 0]) (s1 := [.ref 32, .ref 29]) (h1 := cH_76 v) 3 (fun n => rfl) (by decide) ?_
  refine Ev.b (pc' := 31) (L' := [.ref 29, .int v, .retAddr 0]) (st' := []) (h' := cH_77 v) 1 (fun n => rfl) ?_
  refine Ev.g (c := 33 < 1000 ∧ ¬ (256 : Int32) < 0 ∧ (256 : Int32).toNatClampNeg ≤ 1000) (p1 := 37) (L1 := [.ref 29, .int v, .retAddr 0]) (s1 := [.ref 33, .ref 29]) (h1 := cH_78 v) 3 (fun n => rfl) (by decide) ?_
  refine Ev.b (pc' := 40) (L' := [.ref 29, .int v, .retAddr 0]) (st' := []) (h' := cH_79 v) 1 (fun n => rfl) ?_
  refine Ev.g (c := 34 < 1000 ∧ ¬ (4 : Int32) < 0 ∧ (4 : Int32).toNatClampNeg ≤ 1000) (p1 := 44) (L1 := [.ref 29, .int v, .retAddr 0]) (s1 := [.ref 34, .ref 29]) (h1 := cH_80 v) 3 (fun n => rfl) (by decide) ?_
  refine Ev.b (pc' := 47) (L' := [.ref 29, .int v, .retAddr 0]) (st' := []) (h' := cH_81 v) 1 (fun n => rfl) ?_
  refine Ev.g (c := 35 < 1000 ∧ ¬ (4 : Int32) < 0 ∧ (4 : Int32).toNatClampNeg ≤ 1000) (p1 := 51) (L1 := [.ref 29, .int v, .retAddr 0]) (s1 := [.ref 35, .ref 29]) (h1 := cH_82 v) 3 (fun n => rfl) (by decide) ?_
  refine Ev.b (pc' := 54) (L' := [.ref 29, .int v, .retAddr 0]) (st' := []) (h' := cH_83 v) 1 (fun n => rfl) ?_
  refine Ev.g (c := 36 < 1000 ∧ ¬ (65 : Int32) < 0 ∧ (65 : Int32).toNatClampNeg ≤ 1000) (p1 := 59) (L1 := [.ref 29, .int v, .retAddr 0]) (s1 := [.ref 36, .ref 29]) (h1 := cH_84 v) 3 (fun n => rfl) (by decide) ?_
  refine Ev.b (pc' := 62) (L' := [.ref 29, .int v, .retAddr 0]) (st' := []) (h' := cH_85 v) 1 (fun n => rfl) ?_
  refine Ev.g (c := 37 < 1000 ∧ ¬ (8 : Int32) < 0 ∧ (8 : Int32).toNatClampNeg ≤ 1000) (p1 := 67) (L1 := [.ref 29, .int v, .retAddr 0]) (s1 := [.ref 37, .ref 29]) (h1 := cH_86 v) 3 (fun n => rfl) (by decide) ?_
  refine Ev.b (pc' := 70) (L' := [.ref 29, .int v, .retAddr 0]) (st' := []) (h' := cH_87 v) 1 (fun n => rfl) ?_
  refine Ev.g (c := 38 < 1000 ∧ ¬ (64 : Int32) < 0 ∧ (64 : Int32).toNatClampNeg ≤ 1000) (p1 := 75) (L1 := [.ref 29, .int v, .retAddr 0]) (s1 := [.ref 38, .ref 29]) (h1 := cH_88 v) 3 (fun n => rfl) (by decide) ?_
  refine Ev.b (pc' := 78) (L' := [.ref 29, .int v, .retAddr 0]) (st' := []) (h' := cH_89 v) 1 (fun n => rfl) ?_
  refine Ev.g (c := 39 < 1000 ∧ ¬ (64 : Int32) < 0 ∧ (64 : Int32).toNatClampNeg ≤ 1000) (p1 := 83) (L1 := [.ref 29, .int v, .retAddr 0]) (s1 := [.ref 39, .ref 29]) (h1 := cH_90 v) 3 (fun n => rfl) (by decide) ?_
  refine Ev.b (pc' := 86) (L' := [.ref 29, .int v, .retAddr 0]) (st' := []) (h' := cH_91 v) 1 (fun n => rfl) ?_
  refine Ev.g (c := 40 < 1000 ∧ ¬ (16 : Int32) < 0 ∧ (16 : Int32).toNatClampNeg ≤ 1000) (p1 := 91) (L1 := [.ref 29, .int v, .retAddr 0]) (s1 := [.ref 40, .ref 29]) (h1 := cH_92 v) 3 (fun n => rfl) (by decide) ?_
  refine Ev.b (pc' := 94) (L' := [.ref 29, .int v, .retAddr 0]) (st' := []) (h' := cH_93 v) 1 (fun n => rfl) ?_
  refine Ev.g (c := 41 < 1000 ∧ ¬ (16 : Int32) < 0 ∧ (16 : Int32).toNatClampNeg ≤ 1000) (p1 := 99) (L1 := [.ref 29, .int v, .retAddr 0]) (s1 := [.ref 41, .ref 29]) (h1 := cH_94 v) 3 (fun n => rfl) (by decide) ?_
  refine Ev.b (pc' := 102) (L' := [.ref 29, .int v, .retAddr 0]) (st' := []) (h' := cH_95 v) 1 (fun n => rfl) ?_
  refine Ev.g (c := 42 < 1000 ∧ ¬ (4 : Int32) < 0 ∧ (4 : Int32).toNatClampNeg ≤ 1000) (p1 := 106) (L1 := [.ref 29, .int v, .retAddr 0]) (s1 := [.ref 42, .ref 29]) (h1 := cH_96 v) 3 (fun n => rfl) (by decide) ?_
  refine Ev.b (pc' := 109) (L' := [.ref 29, .int v, .retAddr 0]) (st' := []) (h' := cH_97 v) 1 (fun n => rfl) ?_
  refine Ev.g (c := 43 < 1000 ∧ ¬ (4 : Int32) < 0 ∧ (4 : Int32).toNatClampNeg ≤ 1000) (p1 := 113) (L1 := [.ref 29, .int v, .retAddr 0]) (s1 := [.ref 43, .ref 29]) (h1 := cH_98 v) 3 (fun n => rfl) (by decide) ?_
  refine Ev.b (pc' := 116) (L' := [.ref 29, .int v, .retAddr 0]) (st' := []) (h' := cH_99 v) 1 (fun n => rfl) ?_
  refine Ev.g (c := 44 < 1000 ∧ ¬ (4 : Int32) < 0 ∧ (4 : Int32).toNatClampNeg ≤ 1000) (p1 := 120) (L1 := [.ref 29, .int v, .retAddr 0]) (s1 := [.ref 44, .ref 29]) (h1 := cH_100 v) 3 (fun n => rfl) (by decide) ?_
  refine Ev.b (pc' := 123) (L' := [.ref 29, .int v, .retAddr 0]) (st' := []) (h' := cH_101 v) 1 (fun n => rfl) ?_
  refine Ev.g (c := 45 < 1000 ∧ ¬ (4 : Int32) < 0 ∧ (4 : Int32).toNatClampNeg ≤ 1000) (p1 := 127) (L1 := [.ref 29, .int v, .retAddr 0]) (s1 := [.ref 45, .ref 29]) (h1 := cH_102 v) 3 (fun n => rfl) (by decide) ?_
  refine Ev.b (pc' := 130) (L' := [.ref 29, .int v, .retAddr 0]) (st' := []) (h' := cH_103 v) 1 (fun n => rfl) ?_
  refine Ev.g (c := 46 < 1000 ∧ ¬ (4 : Int32) < 0 ∧ (4 : Int32).toNatClampNeg ≤ 1000) (p1 := 134) (L1 := [.ref 29, .int v, .retAddr 0]) (s1 := [.ref 46, .ref 29]) (h1 := cH_104 v) 3 (fun n => rfl) (by decide) ?_
  refine Ev.b (pc' := 137) (L' := [.ref 29, .int v, .retAddr 0]) (st' := []) (h' := cH_105 v) 1 (fun n => rfl) ?_
  refine Ev.g (c := 47 < 1000 ∧ ¬ (4 : Int32) < 0 ∧ (4 : Int32).toNatClampNeg ≤ 1000) (p1 := 141) (L1 := [.ref 29, .int v, .retAddr 0]) (s1 := [.ref 47, .ref 29]) (h1 := cH_106 v) 3 (fun n => rfl) (by decide) ?_
  refine Ev.b (pc' := 144) (L' := [.ref 29, .int v, .retAddr 0]) (st' := []) (h' := cH_107 v) 1 (fun n => rfl) ?_
  refine Ev.g (c := 48 < 1000 ∧ ¬ (4 : Int32) < 0 ∧ (4 : Int32).toNatClampNeg ≤ 1000) (p1 := 148) (L1 := [.ref 29, .int v, .retAddr 0]) (s1 := [.ref 48, .ref 29]) (h1 := cH_108 v) 3 (fun n => rfl) (by decide) ?_
  refine Ev.b (pc' := 151) (L' := [.ref 29, .int v, .retAddr 0]) (st' := []) (h' := cH_109 v) 1 (fun n => rfl) ?_
  refine Ev.g (c := 49 < 1000 ∧ ¬ (4 : Int32) < 0 ∧ (4 : Int32).toNatClampNeg ≤ 1000) (p1 := 155) (L1 := [.ref 29, .int v, .retAddr 0]) (s1 := [.ref 49, .ref 29]) (h1 := cH_110 v) 3 (fun n => rfl) (by decide) ?_
  refine Ev.b (pc' := 158) (L' := [.ref 29, .int v, .retAddr 0]) (st' := []) (h' := cH_111 v) 1 (fun n => rfl) ?_
  refine Ev.g (c := 50 < 1000 ∧ ¬ (4 : Int32) < 0 ∧ (4 : Int32).toNatClampNeg ≤ 1000) (p1 := 162) (L1 := [.ref 29, .int v, .retAddr 0]) (s1 := [.ref 50, .ref 29]) (h1 := cH_112 v) 3 (fun n => rfl) (by decide) ?_
  refine Ev.b (pc' := 165) (L' := [.ref 29, .int v, .retAddr 0]) (st' := []) (h' := cH_113 v) 1 (fun n => rfl) ?_
  refine Ev.g (c := 51 < 1000 ∧ ¬ (4 : Int32) < 0 ∧ (4 : Int32).toNatClampNeg ≤ 1000) (p1 := 169) (L1 := [.ref 29, .int v, .retAddr 0]) (s1 := [.ref 51, .ref 29]) (h1 := cH_114 v) 3 (fun n => rfl) (by decide) ?_
  refine Ev.b (pc' := 172) (L' := [.ref 29, .int v, .retAddr 0]) (st' := []) (h' := cH_115 v) 1 (fun n => rfl) ?_
  refine Ev.g (c := 52 < 1000 ∧ ¬ (4 : Int32) < 0 ∧ (4 : Int32).toNatClampNeg ≤ 1000) (p1 := 176) (L1 := [.ref 29, .int v, .retAddr 0]) (s1 := [.ref 52, .ref 29]) (h1 := cH_116 v) 3 (fun n => rfl) (by decide) ?_
  refine Ev.b (pc' := 179) (L' := [.ref 29, .int v, .retAddr 0]) (st' := []) (h' := cH_117 v) 1 (fun n => rfl) ?_
  refine Ev.g (c := 53 < 1000 ∧ ¬ (4 : Int32) < 0 ∧ (4 : Int32).toNatClampNeg ≤ 1000) (p1 := 183) (L1 := [.ref 29, .int v, .retAddr 0]) (s1 := [.ref 53, .ref 29]) (h1 := cH_118 v) 3 (fun n => rfl) (by decide) ?_
  refine Ev.b (pc' := 186) (L' := [.ref 29, .int v, .retAddr 0]) (st' := []) (h' := cH_119 v) 1 (fun n => rfl) ?_
  refine Ev.g (c := 54 < 1000 ∧ ¬ (4 : Int32) < 0 ∧ (4 : Int32).toNatClampNeg ≤ 1000) (p1 := 190) (L1 := [.ref 29, .int v, .retAddr 0]) (s1 := [.ref 54, .ref 29]) (h1 := cH_120 v) 3 (fun n => rfl) (by decide) ?_
  refine Ev.b (pc' := 193) (L' := [.ref 29, .int v, .retAddr 0]) (st' := []) (h' := cH_121 v) 1 (fun n => rfl) ?_
  refine Ev.g (c := 55 < 1000 ∧ ¬ (4 : Int32) < 0 ∧ (4 : Int32).toNatClampNeg ≤ 1000) (p1 := 197) (L1 := [.ref 29, .int v, .retAddr 0]) (s1 := [.ref 55, .ref 29]) (h1 := cH_122 v) 3 (fun n => rfl) (by decide) ?_
  refine Ev.b (pc' := 200) (L' := [.ref 29, .int v, .retAddr 0]) (st' := []) (h' := cH_123 v) 1 (fun n => rfl) ?_
  refine Ev.g (c := 56 < 1000 ∧ ¬ (4 : Int32) < 0 ∧ (4 : Int32).toNatClampNeg ≤ 1000) (p1 := 204) (L1 := [.ref 29, .int v, .retAddr 0]) (s1 := [.ref 56, .ref 29]) (h1 := cH_124 v) 3 (fun n => rfl) (by decide) ?_
  refine Ev.b (pc' := 207) (L' := [.ref 29, .int v, .retAddr 0]) (st' := []) (h' := cH_125 v) 1 (fun n => rfl) ?_
  refine Ev.b (pc' := 207) (L' := [.ref 29, .int v, .retAddr 0]) (st' := []) (h' := cH_125 v) 0 (fun n => rfl) ?_
  have key : Ev X 2 112 233 [.ref 29, .int v, .retAddr 0] [.int (xml v), .ref 29] (cH_125 v) (none, hh S') := by
    refine Ev.b (pc' := 236) (L' := [.ref 29, .int v, .retAddr 0]) (st' := []) (h' := cH_126 v) 1 (fun n => rfl) ?_
    refine Ev.f (c := (4 : Int32) ≤ (0 : Int32)) (p1 := 263) (L1 := [.ref 29, .int v, .int 0]) (s1 := []) (h1 := cH_126 v) (p2 := 243) (L2 := [.ref 29, .int v, .int 0]) (s2 := []) (h2 := cH_126 v) 5 (fun n => rfl) (by decide) ?_
    refine Ev.g (c := 0 = 0 ∧ xa_in (0 : Int32) 4) (p1 := 250) (L1 := [.ref 29, .int v, .int 0]) (s1 := []) (h1 := cH_127 v) 5 (fun n => rfl) (by decide) ?_
    refine Ev.g (c := 0 = 0 ∧ xa_in (0 : Int32) 4) (p1 := 257) (L1 := [.ref 29, .int v, .int 0]) (s1 := []) (h1 := cH_128 v) 5 (fun n => rfl) (by decide) ?_
    refine Ev.b (pc' := 260) (L' := [.ref 29, .int v, .int 1]) (st' := []) (h' := cH_128 v) 1 (fun n => rfl) ?_
    refine Ev.f (c := (4 : Int32) ≤ (1 : Int32)) (p1 := 263) (L1 := [.ref 29, .int v, .int 1]) (s1 := []) (h1 := cH_128 v) (p2 := 243) (L2 := [.ref 29, .int v, .int 1]) (s2 := []) (h2 := cH_128 v) 4 (fun n => rfl) (by decide) ?_
    refine Ev.g (c := 0 = 0 ∧ xa_in (1 : Int32) 4) (p1 := 250) (L1 := [.ref 29, .int v, .int 1]) (s1 := []) (h1 := cH_129 v) 5 (fun n => rfl) (by decide) ?_
    refine Ev.g (c := 0 = 0 ∧ xa_in (1 : Int32) 4) (p1 := 257) (L1 := [.ref 29, .int v, .int 1]) (s1 := []) (h1 := cH_130 v) 5 (fun n => rfl) (by decide) ?_
    refine Ev.b (pc' := 260) (L' := [.ref 29, .int v, .int 2]) (st' := []) (h' := cH_130 v) 1 (fun n => rfl) ?_
    refine Ev.f (c := (4 : Int32) ≤ (2 : Int32)) (p1 := 263) (L1 := [.ref 29, .int v, .int 2]) (s1 := []) (h1 := cH_130 v) (p2 := 243) (L2 := [.ref 29, .int v, .int 2]) (s2 := []) (h2 := cH_130 v) 4 (fun n => rfl) (by decide) ?_
    refine Ev.g (c := 0 = 0 ∧ xa_in (2 : Int32) 4) (p1 := 250) (L1 := [.ref 29, .int v, .int 2]) (s1 := []) (h1 := cH_131 v) 5 (fun n => rfl) (by decide) ?_
    refine Ev.g (c := 0 = 0 ∧ xa_in (2 : Int32) 4) (p1 := 257) (L1 := [.ref 29, .int v, .int 2]) (s1 := []) (h1 := cH_132 v) 5 (fun n => rfl) (by decide) ?_
    refine Ev.b (pc' := 260) (L' := [.ref 29, .int v, .int 3]) (st' := []) (h' := cH_132 v) 1 (fun n => rfl) ?_
    refine Ev.f (c := (4 : Int32) ≤ (3 : Int32)) (p1 := 263) (L1 := [.ref 29, .int v, .int 3]) (s1 := []) (h1 := cH_132 v) (p2 := 243) (L2 := [.ref 29, .int v, .int 3]) (s2 := []) (h2 := cH_132 v) 4 (fun n => rfl) (by decide) ?_
    refine Ev.g (c := 0 = 0 ∧ xa_in (3 : Int32) 4) (p1 := 250) (L1 := [.ref 29, .int v, .int 3]) (s1 := []) (h1 := cH_133 v) 5 (fun n => rfl) (by decide) ?_
    refine Ev.g (c := 0 = 0 ∧ xa_in (3 : Int32) 4) (p1 := 257) (L1 := [.ref 29, .int v, .int 3]) (s1 := []) (h1 := cH_134 v) 5 (fun n => rfl) (by decide) ?_
    refine Ev.b (pc' := 260) (L' := [.ref 29, .int v, .int 4]) (st' := []) (h' := cH_134 v) 1 (fun n => rfl) ?_
    refine Ev.t (c := (4 : Int32) ≤ (4 : Int32)) (p1 := 263) (L1 := [.ref 29, .int v, .int 4]) (s1 := []) (h1 := cH_134 v) (p2 := 243) (L2 := [.ref 29, .int v, .int 4]) (s2 := []) (h2 := cH_134 v) 4 (fun n => rfl) (by decide) ?_
    refine Ev.b (pc' := 264) (L' := [.ref 29, .int v, .int 4]) (st' := [.ref 29]) (h' := cH_134 v) 1 (fun n => rfl) ?_
    rw [cH_fin v]
    refine Ev.c (a := 113) (A := [.ref 29, .retAddr 0]) (h1 := hh (cI_79 v, none, fun _ => none)) (pc' := 267) (L' := [.ref 29, .int v, .int 4]) (rest := []) (r1 := none) (h2 := hh S') 1 (fun n => rfl) (Ev.up (by decide) (T_113 _ _ _ hG)) ?_
    exact Ev.r 1 (fun n => rfl)
  by_cases c1 : 16 ≤ v
  · refine Ev.t (c := 16 ≤ v) (p1 := 219) (L1 := [.ref 29, .int v, .retAddr 0]) (s1 := [.ref 29]) (h1 := cH_125 v) (p2 := 214) (L2 := [.ref 29, .int v, .retAddr 0]) (s2 := [.ref 29]) (h2 := cH_125 v) 4 (fun n => rfl) c1 ?_
    by_cases c2 : v ≤ 200
    · refine Ev.t (c := v ≤ 200) (p1 := 232) (L1 := [.ref 29, .int v, .retAddr 0]) (s1 := [.ref 29]) (h1 := cH_125 v) (p2 := 226) (L2 := [.ref 29, .int v, .retAddr 0]) (s2 := [.ref 29]) (h2 := cH_125 v) 3 (fun n => rfl) c2 ?_
      have e : xml v = v := by unfold xml; rw [if_pos c1, if_pos c2]
      rw [e] at key
      exact Ev.b (pc' := 233) (L' := [.ref 29, .int v, .retAddr 0]) (st' := [.int v, .ref 29]) (h' := cH_125 v) 1 (fun n => rfl) key
    · refine Ev.f (c := v ≤ 200) (p1 := 232) (L1 := [.ref 29, .int v, .retAddr 0]) (s1 := [.ref 29]) (h1 := cH_125 v) (p2 := 226) (L2 := [.ref 29, .int v, .retAddr 0]) (s2 := [.ref 29]) (h2 := cH_125 v) 3 (fun n => rfl) c2 ?_
      have e : xml v = 200 := by unfold xml; rw [if_pos c1, if_neg c2]
      rw [e] at key
      exact Ev.b (pc' := 233) (L' := [.ref 29, .int v, .retAddr 0]) (st' := [.int 200, .ref 29]) (h' := cH_125 v) 2 (fun n => rfl) key
  · refine Ev.f (c := 16 ≤ v) (p1 := 219) (L1 := [.ref 29, .int v, .retAddr 0]) (s1 := [.ref 29]) (h1 := cH_125 v) (p2 := 214) (L2 := [.ref 29, .int v, .retAddr 0]) (s2 := [.ref 29]) (h2 := cH_125 v) 4 (fun n => rfl) c1 ?_
    have e : xml v = 16 := by unfold xml; rw [if_neg c1]
    rw [e] at key
    exact Ev.b (pc' := 233) (L' := [.ref 29, .int v, .retAddr 0]) (st' := [.int 16, .ref 29]) (h' := cH_125 v) 2 (fun n => rfl) key
