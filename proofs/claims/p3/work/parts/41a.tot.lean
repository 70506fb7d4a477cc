/-! The methods of the parser, one by one. -/
/-- what a method leaves: where it goes on, as many parts as said, an answer below B -/
def Po (cnt N : Nat) (K : Nat → Nat) (s : Ss) (op B : Nat) (fl : Bool) (v : Nat) (s' : Ss) : Prop := Iv cnt N s' ∧ s_at s ≤ s_at s' ∧ s_op s' = op ∧ v < B ∧ (fl = true → v ≠ 2 ∨ K (s_at s') ≠ 0)
def rk (mi : Nat) : Nat := if mi = 14 then 10 else if mi = 22 then 2 else if mi = 23 then 0 else if mi = 26 then 0 else if mi = 28 then 5 else if mi = 29 then 4 else if mi = 30 then 3 else if mi = 34 then 2 else if mi = 35 then 1 else if mi = 37 then 0 else if mi = 38 then 5 else if mi = 42 then 0 else if mi = 43 then 0 else if mi = 44 then 1 else if mi = 45 then 0 else if mi = 46 then 1 else if mi = 47 then 0 else if mi = 48 then 13 else if mi = 49 then 12 else if mi = 50 then 9 else if mi = 51 then 0 else if mi = 52 then 8 else if mi = 53 then 7 else if mi = 54 then 0 else if mi = 55 then 6 else if mi = 56 then 5 else if mi = 57 then 1 else if mi = 58 then 7 else if mi = 60 then 9 else if mi = 61 then 8 else if mi = 62 then 7 else if mi = 65 then 6 else if mi = 66 then 6 else if mi = 67 then 5 else if mi = 69 then 0 else if mi = 70 then 9 else if mi = 71 then 5 else if mi = 72 then 0 else if mi = 73 then 15 else if mi = 74 then 1 else if mi = 75 then 8 else if mi = 76 then 14 else if mi = 77 then 15 else if mi = 78 then 1 else if mi = 79 then 11 else if mi = 80 then 10 else if mi = 81 then 5 else if mi = 82 then 9 else if mi = 83 then 8 else if mi = 84 then 5 else if mi = 85 then 7 else if mi = 87 then 0 else if mi = 88 then 9 else if mi = 89 then 0 else if mi = 90 then 0 else if mi = 91 then 1 else if mi = 92 then 0 else if mi = 93 then 0 else if mi = 94 then 5 else if mi = 95 then 0 else if mi = 99 then 1 else if mi = 100 then 1 else if mi = 101 then 1 else if mi = 102 then 1 else if mi = 103 then 0 else if mi = 104 then 2 else if mi = 105 then 0 else 0
theorem rk_14 : rk 14 = 10 := by decide +kernel
theorem rk_22 : rk 22 = 2 := by decide +kernel
theorem rk_23 : rk 23 = 0 := by decide +kernel
theorem rk_26 : rk 26 = 0 := by decide +kernel
theorem rk_28 : rk 28 = 5 := by decide +kernel
theorem rk_29 : rk 29 = 4 := by decide +kernel
theorem rk_30 : rk 30 = 3 := by decide +kernel
theorem rk_34 : rk 34 = 2 := by decide +kernel
theorem rk_35 : rk 35 = 1 := by decide +kernel
theorem rk_37 : rk 37 = 0 := by decide +kernel
theorem rk_38 : rk 38 = 5 := by decide +kernel
theorem rk_42 : rk 42 = 0 := by decide +kernel
theorem rk_43 : rk 43 = 0 := by decide +kernel
theorem rk_44 : rk 44 = 1 := by decide +kernel
theorem rk_45 : rk 45 = 0 := by decide +kernel
theorem rk_46 : rk 46 = 1 := by decide +kernel
theorem rk_47 : rk 47 = 0 := by decide +kernel
theorem rk_48 : rk 48 = 13 := by decide +kernel
theorem rk_49 : rk 49 = 12 := by decide +kernel
theorem rk_50 : rk 50 = 9 := by decide +kernel
theorem rk_51 : rk 51 = 0 := by decide +kernel
theorem rk_52 : rk 52 = 8 := by decide +kernel
theorem rk_53 : rk 53 = 7 := by decide +kernel
theorem rk_54 : rk 54 = 0 := by decide +kernel
theorem rk_55 : rk 55 = 6 := by decide +kernel
theorem rk_56 : rk 56 = 5 := by decide +kernel
theorem rk_57 : rk 57 = 1 := by decide +kernel
theorem rk_58 : rk 58 = 7 := by decide +kernel
theorem rk_60 : rk 60 = 9 := by decide +kernel
theorem rk_61 : rk 61 = 8 := by decide +kernel
theorem rk_62 : rk 62 = 7 := by decide +kernel
theorem rk_65 : rk 65 = 6 := by decide +kernel
theorem rk_66 : rk 66 = 6 := by decide +kernel
theorem rk_67 : rk 67 = 5 := by decide +kernel
theorem rk_69 : rk 69 = 0 := by decide +kernel
theorem rk_70 : rk 70 = 9 := by decide +kernel
theorem rk_71 : rk 71 = 5 := by decide +kernel
theorem rk_72 : rk 72 = 0 := by decide +kernel
theorem rk_73 : rk 73 = 15 := by decide +kernel
theorem rk_74 : rk 74 = 1 := by decide +kernel
theorem rk_75 : rk 75 = 8 := by decide +kernel
theorem rk_76 : rk 76 = 14 := by decide +kernel
theorem rk_77 : rk 77 = 15 := by decide +kernel
theorem rk_78 : rk 78 = 1 := by decide +kernel
theorem rk_79 : rk 79 = 11 := by decide +kernel
theorem rk_80 : rk 80 = 10 := by decide +kernel
theorem rk_81 : rk 81 = 5 := by decide +kernel
theorem rk_82 : rk 82 = 9 := by decide +kernel
theorem rk_83 : rk 83 = 8 := by decide +kernel
theorem rk_84 : rk 84 = 5 := by decide +kernel
theorem rk_85 : rk 85 = 7 := by decide +kernel
theorem rk_87 : rk 87 = 0 := by decide +kernel
theorem rk_88 : rk 88 = 9 := by decide +kernel
theorem rk_89 : rk 89 = 0 := by decide +kernel
theorem rk_90 : rk 90 = 0 := by decide +kernel
theorem rk_91 : rk 91 = 1 := by decide +kernel
theorem rk_92 : rk 92 = 0 := by decide +kernel
theorem rk_93 : rk 93 = 0 := by decide +kernel
theorem rk_94 : rk 94 = 5 := by decide +kernel
theorem rk_95 : rk 95 = 0 := by decide +kernel
theorem rk_99 : rk 99 = 1 := by decide +kernel
theorem rk_100 : rk 100 = 1 := by decide +kernel
theorem rk_101 : rk 101 = 1 := by decide +kernel
theorem rk_102 : rk 102 = 1 := by decide +kernel
theorem rk_103 : rk 103 = 0 := by decide +kernel
theorem rk_104 : rk 104 = 2 := by decide +kernel
theorem rk_105 : rk 105 = 0 := by decide +kernel
def bd (mi : Nat) : Nat := if mi = 14 then 16387 else if mi = 22 then 16387 else if mi = 23 then 16387 else if mi = 26 then 16387 else if mi = 28 then 16387 else if mi = 29 then 16387 else if mi = 30 then 16387 else if mi = 34 then 16387 else if mi = 35 then 16387 else if mi = 37 then 16387 else if mi = 38 then 16387 else if mi = 42 then 16387 else if mi = 43 then 16387 else if mi = 44 then 16387 else if mi = 45 then 16387 else if mi = 46 then 16387 else if mi = 47 then 16387 else if mi = 48 then 16387 else if mi = 49 then 2 else if mi = 50 then 16387 else if mi = 51 then 16387 else if mi = 52 then 16387 else if mi = 53 then 16387 else if mi = 54 then 16387 else if mi = 55 then 16387 else if mi = 56 then 16387 else if mi = 57 then 16387 else if mi = 58 then 16387 else if mi = 60 then 16387 else if mi = 61 then 16387 else if mi = 62 then 16387 else if mi = 65 then 16387 else if mi = 66 then 16387 else if mi = 67 then 16387 else if mi = 69 then 16387 else if mi = 70 then 16387 else if mi = 71 then 2 else if mi = 72 then 16387 else if mi = 73 then 16387 else if mi = 74 then 16387 else if mi = 75 then 16387 else if mi = 76 then 16387 else if mi = 77 then 16387 else if mi = 78 then 16387 else if mi = 79 then 16387 else if mi = 80 then 16387 else if mi = 81 then 16387 else if mi = 82 then 16387 else if mi = 83 then 2 else if mi = 84 then 16387 else if mi = 85 then 16387 else if mi = 87 then 16387 else if mi = 88 then 2 else if mi = 89 then 16387 else if mi = 90 then 16387 else if mi = 91 then 2 else if mi = 92 then 2 else if mi = 93 then 16387 else if mi = 94 then 16387 else if mi = 95 then 16387 else if mi = 99 then 16387 else if mi = 100 then 16387 else if mi = 101 then 16387 else if mi = 102 then 16387 else if mi = 103 then 16387 else if mi = 104 then 16387 else if mi = 105 then 16387 else 16387
theorem bd_14 : bd 14 = 16387 := by decide +kernel
theorem bd_22 : bd 22 = 16387 := by decide +kernel
theorem bd_23 : bd 23 = 16387 := by decide +kernel
theorem bd_26 : bd 26 = 16387 := by decide +kernel
theorem bd_28 : bd 28 = 16387 := by decide +kernel
theorem bd_29 : bd 29 = 16387 := by decide +kernel
theorem bd_30 : bd 30 = 16387 := by decide +kernel
theorem bd_34 : bd 34 = 16387 := by decide +kernel
theorem bd_35 : bd 35 = 16387 := by decide +kernel
theorem bd_37 : bd 37 = 16387 := by decide +kernel
theorem bd_38 : bd 38 = 16387 := by decide +kernel
theorem bd_42 : bd 42 = 16387 := by decide +kernel
theorem bd_43 : bd 43 = 16387 := by decide +kernel
theorem bd_44 : bd 44 = 16387 := by decide +kernel
theorem bd_45 : bd 45 = 16387 := by decide +kernel
theorem bd_46 : bd 46 = 16387 := by decide +kernel
theorem bd_47 : bd 47 = 16387 := by decide +kernel
theorem bd_48 : bd 48 = 16387 := by decide +kernel
theorem bd_49 : bd 49 = 2 := by decide +kernel
theorem bd_50 : bd 50 = 16387 := by decide +kernel
theorem bd_51 : bd 51 = 16387 := by decide +kernel
theorem bd_52 : bd 52 = 16387 := by decide +kernel
theorem bd_53 : bd 53 = 16387 := by decide +kernel
theorem bd_54 : bd 54 = 16387 := by decide +kernel
theorem bd_55 : bd 55 = 16387 := by decide +kernel
theorem bd_56 : bd 56 = 16387 := by decide +kernel
theorem bd_57 : bd 57 = 16387 := by decide +kernel
theorem bd_58 : bd 58 = 16387 := by decide +kernel
theorem bd_60 : bd 60 = 16387 := by decide +kernel
theorem bd_61 : bd 61 = 16387 := by decide +kernel
theorem bd_62 : bd 62 = 16387 := by decide +kernel
theorem bd_65 : bd 65 = 16387 := by decide +kernel
theorem bd_66 : bd 66 = 16387 := by decide +kernel
theorem bd_67 : bd 67 = 16387 := by decide +kernel
theorem bd_69 : bd 69 = 16387 := by decide +kernel
theorem bd_70 : bd 70 = 16387 := by decide +kernel
theorem bd_71 : bd 71 = 2 := by decide +kernel
theorem bd_72 : bd 72 = 16387 := by decide +kernel
theorem bd_73 : bd 73 = 16387 := by decide +kernel
theorem bd_74 : bd 74 = 16387 := by decide +kernel
theorem bd_75 : bd 75 = 16387 := by decide +kernel
theorem bd_76 : bd 76 = 16387 := by decide +kernel
theorem bd_77 : bd 77 = 16387 := by decide +kernel
theorem bd_78 : bd 78 = 16387 := by decide +kernel
theorem bd_79 : bd 79 = 16387 := by decide +kernel
theorem bd_80 : bd 80 = 16387 := by decide +kernel
theorem bd_81 : bd 81 = 16387 := by decide +kernel
theorem bd_82 : bd 82 = 16387 := by decide +kernel
theorem bd_83 : bd 83 = 2 := by decide +kernel
theorem bd_84 : bd 84 = 16387 := by decide +kernel
theorem bd_85 : bd 85 = 16387 := by decide +kernel
theorem bd_87 : bd 87 = 16387 := by decide +kernel
theorem bd_88 : bd 88 = 2 := by decide +kernel
theorem bd_89 : bd 89 = 16387 := by decide +kernel
theorem bd_90 : bd 90 = 16387 := by decide +kernel
theorem bd_91 : bd 91 = 2 := by decide +kernel
theorem bd_92 : bd 92 = 2 := by decide +kernel
theorem bd_93 : bd 93 = 16387 := by decide +kernel
theorem bd_94 : bd 94 = 16387 := by decide +kernel
theorem bd_95 : bd 95 = 16387 := by decide +kernel
theorem bd_99 : bd 99 = 16387 := by decide +kernel
theorem bd_100 : bd 100 = 16387 := by decide +kernel
theorem bd_101 : bd 101 = 16387 := by decide +kernel
theorem bd_102 : bd 102 = 16387 := by decide +kernel
theorem bd_103 : bd 103 = 16387 := by decide +kernel
theorem bd_104 : bd 104 = 16387 := by decide +kernel
theorem bd_105 : bd 105 = 16387 := by decide +kernel
def pk (mi : Nat) : Bool := if mi = 14 then false else if mi = 22 then true else if mi = 23 then false else if mi = 26 then false else if mi = 28 then true else if mi = 29 then false else if mi = 30 then false else if mi = 34 then false else if mi = 35 then false else if mi = 37 then false else if mi = 38 then false else if mi = 42 then false else if mi = 43 then true else if mi = 44 then false else if mi = 45 then false else if mi = 46 then false else if mi = 47 then false else if mi = 48 then false else if mi = 49 then false else if mi = 50 then true else if mi = 51 then false else if mi = 52 then false else if mi = 53 then false else if mi = 54 then false else if mi = 55 then false else if mi = 56 then false else if mi = 57 then false else if mi = 58 then false else if mi = 60 then true else if mi = 61 then false else if mi = 62 then false else if mi = 65 then true else if mi = 66 then true else if mi = 67 then false else if mi = 69 then false else if mi = 70 then true else if mi = 71 then false else if mi = 72 then false else if mi = 73 then true else if mi = 74 then false else if mi = 75 then false else if mi = 76 then false else if mi = 77 then true else if mi = 78 then true else if mi = 79 then true else if mi = 80 then false else if mi = 81 then true else if mi = 82 then false else if mi = 83 then false else if mi = 84 then true else if mi = 85 then true else if mi = 87 then true else if mi = 88 then false else if mi = 89 then false else if mi = 90 then true else if mi = 91 then false else if mi = 92 then true else if mi = 93 then false else if mi = 94 then false else if mi = 95 then false else if mi = 99 then true else if mi = 100 then true else if mi = 101 then true else if mi = 102 then true else if mi = 103 then true else if mi = 104 then true else if mi = 105 then true else false
theorem pk_14 : pk 14 = false := by decide +kernel
theorem pk_22 : pk 22 = true := by decide +kernel
theorem pk_23 : pk 23 = false := by decide +kernel
theorem pk_26 : pk 26 = false := by decide +kernel
theorem pk_28 : pk 28 = true := by decide +kernel
theorem pk_29 : pk 29 = false := by decide +kernel
theorem pk_30 : pk 30 = false := by decide +kernel
theorem pk_34 : pk 34 = false := by decide +kernel
theorem pk_35 : pk 35 = false := by decide +kernel
theorem pk_37 : pk 37 = false := by decide +kernel
theorem pk_38 : pk 38 = false := by decide +kernel
theorem pk_42 : pk 42 = false := by decide +kernel
theorem pk_43 : pk 43 = true := by decide +kernel
theorem pk_44 : pk 44 = false := by decide +kernel
theorem pk_45 : pk 45 = false := by decide +kernel
theorem pk_46 : pk 46 = false := by decide +kernel
theorem pk_47 : pk 47 = false := by decide +kernel
theorem pk_48 : pk 48 = false := by decide +kernel
theorem pk_49 : pk 49 = false := by decide +kernel
theorem pk_50 : pk 50 = true := by decide +kernel
theorem pk_51 : pk 51 = false := by decide +kernel
theorem pk_52 : pk 52 = false := by decide +kernel
theorem pk_53 : pk 53 = false := by decide +kernel
theorem pk_54 : pk 54 = false := by decide +kernel
theorem pk_55 : pk 55 = false := by decide +kernel
theorem pk_56 : pk 56 = false := by decide +kernel
theorem pk_57 : pk 57 = false := by decide +kernel
theorem pk_58 : pk 58 = false := by decide +kernel
theorem pk_60 : pk 60 = true := by decide +kernel
theorem pk_61 : pk 61 = false := by decide +kernel
theorem pk_62 : pk 62 = false := by decide +kernel
theorem pk_65 : pk 65 = true := by decide +kernel
theorem pk_66 : pk 66 = true := by decide +kernel
theorem pk_67 : pk 67 = false := by decide +kernel
theorem pk_69 : pk 69 = false := by decide +kernel
theorem pk_70 : pk 70 = true := by decide +kernel
theorem pk_71 : pk 71 = false := by decide +kernel
theorem pk_72 : pk 72 = false := by decide +kernel
theorem pk_73 : pk 73 = true := by decide +kernel
theorem pk_74 : pk 74 = false := by decide +kernel
theorem pk_75 : pk 75 = false := by decide +kernel
theorem pk_76 : pk 76 = false := by decide +kernel
theorem pk_77 : pk 77 = true := by decide +kernel
theorem pk_78 : pk 78 = true := by decide +kernel
theorem pk_79 : pk 79 = true := by decide +kernel
theorem pk_80 : pk 80 = false := by decide +kernel
theorem pk_81 : pk 81 = true := by decide +kernel
theorem pk_82 : pk 82 = false := by decide +kernel
theorem pk_83 : pk 83 = false := by decide +kernel
theorem pk_84 : pk 84 = true := by decide +kernel
theorem pk_85 : pk 85 = true := by decide +kernel
theorem pk_87 : pk 87 = true := by decide +kernel
theorem pk_88 : pk 88 = false := by decide +kernel
theorem pk_89 : pk 89 = false := by decide +kernel
theorem pk_90 : pk 90 = true := by decide +kernel
theorem pk_91 : pk 91 = false := by decide +kernel
theorem pk_92 : pk 92 = true := by decide +kernel
theorem pk_93 : pk 93 = false := by decide +kernel
theorem pk_94 : pk 94 = false := by decide +kernel
theorem pk_95 : pk 95 = false := by decide +kernel
theorem pk_99 : pk 99 = true := by decide +kernel
theorem pk_100 : pk 100 = true := by decide +kernel
theorem pk_101 : pk 101 = true := by decide +kernel
theorem pk_102 : pk 102 = true := by decide +kernel
theorem pk_103 : pk 103 = true := by decide +kernel
theorem pk_104 : pk 104 = true := by decide +kernel
theorem pk_105 : pk 105 = true := by decide +kernel
def br (mi : Nat) : Bool := if mi = 14 then false else if mi = 22 then false else if mi = 23 then false else if mi = 26 then false else if mi = 28 then false else if mi = 29 then false else if mi = 30 then false else if mi = 34 then false else if mi = 35 then false else if mi = 37 then false else if mi = 38 then false else if mi = 42 then false else if mi = 43 then false else if mi = 44 then false else if mi = 45 then false else if mi = 46 then false else if mi = 47 then false else if mi = 48 then false else if mi = 49 then false else if mi = 50 then false else if mi = 51 then false else if mi = 52 then false else if mi = 53 then false else if mi = 54 then false else if mi = 55 then false else if mi = 56 then false else if mi = 57 then false else if mi = 58 then false else if mi = 60 then false else if mi = 61 then true else if mi = 62 then true else if mi = 65 then true else if mi = 66 then true else if mi = 67 then true else if mi = 69 then false else if mi = 70 then false else if mi = 71 then false else if mi = 72 then false else if mi = 73 then false else if mi = 74 then false else if mi = 75 then false else if mi = 76 then false else if mi = 77 then false else if mi = 78 then false else if mi = 79 then false else if mi = 80 then false else if mi = 81 then false else if mi = 82 then false else if mi = 83 then false else if mi = 84 then false else if mi = 85 then false else if mi = 87 then false else if mi = 88 then false else if mi = 89 then false else if mi = 90 then false else if mi = 91 then false else if mi = 92 then false else if mi = 93 then false else if mi = 94 then false else if mi = 95 then false else if mi = 99 then false else if mi = 100 then false else if mi = 101 then false else if mi = 102 then false else if mi = 103 then false else if mi = 104 then false else if mi = 105 then false else false
theorem br_14 : br 14 = false := by decide +kernel
theorem br_22 : br 22 = false := by decide +kernel
theorem br_23 : br 23 = false := by decide +kernel
theorem br_26 : br 26 = false := by decide +kernel
theorem br_28 : br 28 = false := by decide +kernel
theorem br_29 : br 29 = false := by decide +kernel
theorem br_30 : br 30 = false := by decide +kernel
theorem br_34 : br 34 = false := by decide +kernel
theorem br_35 : br 35 = false := by decide +kernel
theorem br_37 : br 37 = false := by decide +kernel
theorem br_38 : br 38 = false := by decide +kernel
theorem br_42 : br 42 = false := by decide +kernel
theorem br_43 : br 43 = false := by decide +kernel
theorem br_44 : br 44 = false := by decide +kernel
theorem br_45 : br 45 = false := by decide +kernel
theorem br_46 : br 46 = false := by decide +kernel
theorem br_47 : br 47 = false := by decide +kernel
theorem br_48 : br 48 = false := by decide +kernel
theorem br_49 : br 49 = false := by decide +kernel
theorem br_50 : br 50 = false := by decide +kernel
theorem br_51 : br 51 = false := by decide +kernel
theorem br_52 : br 52 = false := by decide +kernel
theorem br_53 : br 53 = false := by decide +kernel
theorem br_54 : br 54 = false := by decide +kernel
theorem br_55 : br 55 = false := by decide +kernel
theorem br_56 : br 56 = false := by decide +kernel
theorem br_57 : br 57 = false := by decide +kernel
theorem br_58 : br 58 = false := by decide +kernel
theorem br_60 : br 60 = false := by decide +kernel
theorem br_61 : br 61 = true := by decide +kernel
theorem br_62 : br 62 = true := by decide +kernel
theorem br_65 : br 65 = true := by decide +kernel
theorem br_66 : br 66 = true := by decide +kernel
theorem br_67 : br 67 = true := by decide +kernel
theorem br_69 : br 69 = false := by decide +kernel
theorem br_70 : br 70 = false := by decide +kernel
theorem br_71 : br 71 = false := by decide +kernel
theorem br_72 : br 72 = false := by decide +kernel
theorem br_73 : br 73 = false := by decide +kernel
theorem br_74 : br 74 = false := by decide +kernel
theorem br_75 : br 75 = false := by decide +kernel
theorem br_76 : br 76 = false := by decide +kernel
theorem br_77 : br 77 = false := by decide +kernel
theorem br_78 : br 78 = false := by decide +kernel
theorem br_79 : br 79 = false := by decide +kernel
theorem br_80 : br 80 = false := by decide +kernel
theorem br_81 : br 81 = false := by decide +kernel
theorem br_82 : br 82 = false := by decide +kernel
theorem br_83 : br 83 = false := by decide +kernel
theorem br_84 : br 84 = false := by decide +kernel
theorem br_85 : br 85 = false := by decide +kernel
theorem br_87 : br 87 = false := by decide +kernel
theorem br_88 : br 88 = false := by decide +kernel
theorem br_89 : br 89 = false := by decide +kernel
theorem br_90 : br 90 = false := by decide +kernel
theorem br_91 : br 91 = false := by decide +kernel
theorem br_92 : br 92 = false := by decide +kernel
theorem br_93 : br 93 = false := by decide +kernel
theorem br_94 : br 94 = false := by decide +kernel
theorem br_95 : br 95 = false := by decide +kernel
theorem br_99 : br 99 = false := by decide +kernel
theorem br_100 : br 100 = false := by decide +kernel
theorem br_101 : br 101 = false := by decide +kernel
theorem br_102 : br 102 = false := by decide +kernel
theorem br_103 : br 103 = false := by decide +kernel
theorem br_104 : br 104 = false := by decide +kernel
theorem br_105 : br 105 = false := by decide +kernel
def Ms : List Nat := [14, 22, 23, 26, 28, 29, 30, 34, 35, 37, 38, 42, 43, 44, 45, 46, 47, 48, 49, 50, 51, 52, 53, 54, 55, 56, 57, 58, 60, 61, 62, 65, 66, 67, 69, 70, 71, 72, 73, 74, 75, 76, 77, 78, 79, 80, 81, 82, 83, 84, 85, 87, 88, 89, 90, 91, 92, 93, 94, 95, 99, 100, 101, 102, 103, 104, 105]
def Sp (cnt N : Nat) (K : Nat → Nat) (n : Nat) (rc : Nat → Nat → Nat → Ss → Rs Ss) : Prop := ∀ mi, mi ∈ Ms → ∀ x y s, Iv cnt N s → (pk mi = true → K (s_at s) ≠ 0) → (mi = 90 → K (s_at s + 1) ≠ 0) → x < 16387 → y < 16387 → rk mi + 16 * (30 - s_op s) < n → Ok (Po cnt N K s (s_op s) (bd mi) (br mi)) (Iv cnt N) (rc mi x y s)
theorem rkl {mi r o n : Nat} (h : rk mi = r) (q : r + 16 * (30 - o) < n) : rk mi + 16 * (30 - o) < n := by rw [h]; exact q
theorem pkf {mi : Nat} {Q : Prop} (h : pk mi = false) : pk mi = true → Q := fun q => by rw [h] at q; cases q
theorem pnf {mi j : Nat} {Q : Prop} (h : mi ≠ j) : mi = j → Q := fun q => absurd q h
theorem pkt {P Q : Prop} (h : Q) : P → Q := fun _ => h
theorem Ok_rc {cnt N : Nat} {K : Nat → Nat} {P : Nat → Ss → Prop} {rc : Nat → Nat → Nat → Ss → Rs Ss} {mi x y B : Nat} {s : Ss} {k : Nat → Ss → Rs Ss} (h : Ok (Po cnt N K s (s_op s) (bd mi) (br mi)) (Iv cnt N) (rc mi x y s)) (hb : bd mi = B) (A : ∀ v s', Iv cnt N s' → s_at s ≤ s_at s' → s_op s' = s_op s → v < B → Ok P (Iv cnt N) (k v s')) : Ok P (Iv cnt N) (bn (rc mi x y s) k) :=
  Ok_bn h (fun v s' q => A v s' q.1 q.2.1 q.2.2.1 (hb ▸ q.2.2.2.1))
theorem Ok_rcF {cnt N : Nat} {K : Nat → Nat} {P : Nat → Ss → Prop} {rc : Nat → Nat → Nat → Ss → Rs Ss} {mi x y B : Nat} {s : Ss} {k : Nat → Ss → Rs Ss} (h : Ok (Po cnt N K s (s_op s) (bd mi) (br mi)) (Iv cnt N) (rc mi x y s)) (hb : bd mi = B) (hf : br mi = true) (A : ∀ v s', Iv cnt N s' → s_at s ≤ s_at s' → s_op s' = s_op s → v < B → (v ≠ 2 ∨ K (s_at s') ≠ 0) → Ok P (Iv cnt N) (k v s')) : Ok P (Iv cnt N) (bn (rc mi x y s) k) :=
  Ok_bn h (fun v s' q => A v s' q.1 q.2.1 q.2.2.1 (hb ▸ q.2.2.2.1) (q.2.2.2.2 hf))
theorem T_lp_X1_file_20 {cnt N : Nat} {K : Nat → Nat} (G : Kg cnt N K) {n : Nat} {rc : Nat → Nat → Nat → Ss → Rs Ss} (R : Sp cnt N K n rc) : ∀ (f y1 y2 : Nat) (s : Ss), Iv cnt N s → 16387 ≤ f + y2 → y2 ≤ 16386 → y1 < 16387 → y2 < 16387 → 9 + 16 * (30 - s_op s) < n → Ok (Po cnt N K s (s_op s) 16387 false) (Iv cnt N) (lp_X1_file_20 K N rc f y1 y2 s) := by
  obtain ⟨hc, hN, hk, hz9⟩ := id G
  intro f
  induction f with
  | zero => intro y1 y2 s i_s c1 c2 hy1 hy2 hm; omega
  | succ f ih =>
    intro y1 y2 s i_s c1 c2 hy1 hy2 hm
    obtain ⟨a0, p0, h0, g0, w0, -⟩ := id i_s
    rw [lp_X1_file_20]
    refine Ok_ifl (show y2 < 2147483648 from by omega) (by decide) (fun q1 => ?_) (fun q1 => ?_)
    · refine Ok_sees G (by decide) (fun (q2 : K (s_at s) = 0) => ?_) (fun (q2 : K (s_at s) ≠ 0) => ?_)
      · refine Ok_ifz1 ?_
        refine Ok_put G i_s (show y2 < 20000 from by omega) (fun t3 i_t3 (e3 : s_at t3 = s_at s) (o3 : s_op t3 = s_op s) => ?_)
        obtain ⟨a3, p3, h3, g3, w3, -⟩ := id i_t3
        have k3 : K (s_at t3) = K (s_at s) := congrArg K e3
        exact Ok_ret ⟨i_t3, show s_at s ≤ s_at t3 from by omega, show s_op t3 = s_op s from by omega, show 0 < 16387 from by omega, (fun q => by cases q)⟩
      · refine Ok_ifz0 ?_
        refine Ok_sees G (by decide) (fun (q4 : K (s_at s) = 20) => ?_) (fun (q4 : K (s_at s) ≠ 20) => ?_)
        · refine Ok_ifz1 ?_
          refine Ok_rc (R 22 (by decide) _ _ _ i_s (pkt (show K (s_at s) ≠ 0 from by omega)) (pnf (by decide)) (by decide) (by decide) (rkl rk_22 (show 2 + 16 * (30 - (s_op s)) < n from by omega))) bd_22 (fun v5 t5 i_t5 (e5 : s_at s ≤ s_at t5) (o5 : s_op t5 = s_op s) b5 => ?_)
          obtain ⟨a5, p5, h5, g5, w5, -⟩ := id i_t5
          refine Ok_expect G i_t5 (by decide) (by decide) (fun t6 i_t6 (e6 : s_at t6 = s_at t5 + 1) (o6 : s_op t6 = s_op t5) => ?_)
          obtain ⟨a6, p6, h6, g6, w6, -⟩ := id i_t6
          refine Ok_imp (ih y1 (y2 + 1) _ i_t6 (show 16387 ≤ f + (y2 + 1) from by omega) (show y2 + 1 ≤ 16386 from by omega) (show y1 < 16387 from by omega) (show y2 + 1 < 16387 from by omega) (show 9 + 16 * (30 - (s_op t6)) < n from by omega)) (fun v7 t7 z7 => ?_)
          obtain ⟨i_t7, e7, o7, b7, x7⟩ := z7
          have e7 : s_at t6 ≤ s_at t7 := e7
          have o7 : s_op t7 = (s_op t6) := o7
          exact ⟨i_t7, by omega, by omega, by omega, (fun q => by cases q)⟩
        · refine Ok_ifz0 ?_
          refine Ok_ck (G.b _) ?_
          refine Ok_ifz (fb_beginsDecl _) (fun q8 => ?_) (fun q8 => ?_)
          · exact Ok_er i_s
          · have q8n := fn_beginsDecl q8
            refine Ok_rc (R 50 (by decide) _ _ _ i_s (pkt (show K (s_at s) ≠ 0 from by omega)) (pnf (by decide)) (by decide) (by decide) (rkl rk_50 (show 9 + 16 * (30 - (s_op s)) < n from by omega))) bd_50 (fun v9 t9 i_t9 (e9 : s_at s ≤ s_at t9) (o9 : s_op t9 = s_op s) b9 => ?_)
            obtain ⟨a9, p9, h9, g9, w9, -⟩ := id i_t9
            refine Ok_expect G i_t9 (by decide) (by decide) (fun t10 i_t10 (e10 : s_at t10 = s_at t9 + 1) (o10 : s_op t10 = s_op t9) => ?_)
            obtain ⟨a10, p10, h10, g10, w10, -⟩ := id i_t10
            refine Ok_imp (ih y1 (y2 + 1) _ i_t10 (show 16387 ≤ f + (y2 + 1) from by omega) (show y2 + 1 ≤ 16386 from by omega) (show y1 < 16387 from by omega) (show y2 + 1 < 16387 from by omega) (show 9 + 16 * (30 - (s_op t10)) < n from by omega)) (fun v11 t11 z11 => ?_)
            obtain ⟨i_t11, e11, o11, b11, x11⟩ := z11
            have e11 : s_at t10 ≤ s_at t11 := e11
            have o11 : s_op t11 = (s_op t10) := o11
            exact ⟨i_t11, by omega, by omega, by omega, (fun q => by cases q)⟩
    · refine Ok_put G i_s (show y2 < 20000 from by omega) (fun t12 i_t12 (e12 : s_at t12 = s_at s) (o12 : s_op t12 = s_op s) => ?_)
      obtain ⟨a12, p12, h12, g12, w12, -⟩ := id i_t12
      have k12 : K (s_at t12) = K (s_at s) := congrArg K e12
      exact Ok_ret ⟨i_t12, show s_at s ≤ s_at t12 from by omega, show s_op t12 = s_op s from by omega, show 0 < 16387 from by omega, (fun q => by cases q)⟩
theorem T_X1_file {cnt N : Nat} {K : Nat → Nat} (G : Kg cnt N K) {n : Nat} {rc : Nat → Nat → Nat → Ss → Rs Ss} (R : Sp cnt N K n rc) {s : Ss} (i_s : Iv cnt N s) (hm : 10 + 16 * (30 - s_op s) < n + 1) : Ok (Po cnt N K s (s_op s) 16387 false) (Iv cnt N) (b_X1_file K N rc s) := by
  obtain ⟨hc, hN, hk, hz9⟩ := id G
  obtain ⟨a0, p0, h0, g0, w0, -⟩ := id i_s
  unfold b_X1_file
  refine Ok_expect G i_s (by decide) (by decide) (fun t1 i_t1 (e1 : s_at t1 = s_at s + 1) (o1 : s_op t1 = s_op s) => ?_)
  obtain ⟨a1, p1, h1, g1, w1, -⟩ := id i_t1
  refine Ok_name G i_t1 (fun t2 i_t2 (e2 : s_at t2 = s_at t1 + 1) (o2 : s_op t2 = s_op t1) => ?_)
  obtain ⟨a2, p2, h2, g2, w2, -⟩ := id i_t2
  refine Ok_expect G i_t2 (by decide) (by decide) (fun t3 i_t3 (e3 : s_at t3 = s_at t2 + 1) (o3 : s_op t3 = s_op t2) => ?_)
  obtain ⟨a3, p3, h3, g3, w3, -⟩ := id i_t3
  refine Ok_imp (T_lp_X1_file_20 G R LF (s_at s) 1 _ i_t3 (show 16387 ≤ LF + 1 from by unfold LF; omega) (show 1 ≤ 16386 from by omega) (show s_at s < 16387 from by omega) (by decide) (show 9 + 16 * (30 - (s_op t3)) < n from by omega)) (fun v4 t4 z4 => ?_)
  obtain ⟨i_t4, e4, o4, b4, x4⟩ := z4
  have e4 : s_at t3 ≤ s_at t4 := e4
  have o4 : s_op t4 = (s_op t3) := o4
  exact ⟨i_t4, by omega, by omega, by omega, (fun q => by cases q)⟩
theorem T_X1_functionDecl {cnt N : Nat} {K : Nat → Nat} (G : Kg cnt N K) {n : Nat} {rc : Nat → Nat → Nat → Ss → Rs Ss} (R : Sp cnt N K n rc) {s : Ss} (i_s : Iv cnt N s) (hz : K (s_at s) ≠ 0) (hm : 2 + 16 * (30 - s_op s) < n + 1) : Ok (Po cnt N K s (s_op s) 16387 false) (Iv cnt N) (b_X1_functionDecl K N rc s) := by
  obtain ⟨hc, hN, hk, hz9⟩ := id G
  obtain ⟨a0, p0, h0, g0, w0, -⟩ := id i_s
  unfold b_X1_functionDecl
  refine Ok_take G i_s (show K (s_at s) ≠ 0 from by omega) (fun t1 i_t1 (e1 : s_at t1 = s_at s + 1) (o1 : s_op t1 = s_op s) => ?_)
  obtain ⟨a1, p1, h1, g1, w1, -⟩ := id i_t1
  refine Ok_sees G (by decide) (fun (q2 : K (s_at t1) = 78) => ?_) (fun (q2 : K (s_at t1) ≠ 78) => ?_)
  · refine Ok_ifz1 ?_
    refine Ok_rc (R 23 (by decide) _ _ _ i_t1 (pkf pk_23) (pnf (by decide)) (by decide) (by decide) (rkl rk_23 (show 0 + 16 * (30 - (s_op t1)) < n from by omega))) bd_23 (fun v3 t3 i_t3 (e3 : s_at t1 ≤ s_at t3) (o3 : s_op t3 = s_op t1) b3 => ?_)
    obtain ⟨a3, p3, h3, g3, w3, -⟩ := id i_t3
    refine Ok_name G i_t3 (fun t4 i_t4 (e4 : s_at t4 = s_at t3 + 1) (o4 : s_op t4 = s_op t3) => ?_)
    obtain ⟨a4, p4, h4, g4, w4, -⟩ := id i_t4
    refine Ok_rc (R 44 (by decide) _ _ _ i_t4 (pkf pk_44) (pnf (by decide)) (by decide) (by decide) (rkl rk_44 (show 1 + 16 * (30 - (s_op t4)) < n from by omega))) bd_44 (fun v5 t5 i_t5 (e5 : s_at t4 ≤ s_at t5) (o5 : s_op t5 = s_op t4) b5 => ?_)
    obtain ⟨a5, p5, h5, g5, w5, -⟩ := id i_t5
    refine Ok_rc (R 47 (by decide) _ _ _ i_t5 (pkf pk_47) (pnf (by decide)) (by decide) (by decide) (rkl rk_47 (show 0 + 16 * (30 - (s_op t5)) < n from by omega))) bd_47 (fun v6 t6 i_t6 (e6 : s_at t5 ≤ s_at t6) (o6 : s_op t6 = s_op t5) b6 => ?_)
    obtain ⟨a6, p6, h6, g6, w6, -⟩ := id i_t6
    refine Ok_ifz1 ?_
    refine Ok_put G i_t6 (by decide) (fun t7 i_t7 (e7 : s_at t7 = s_at t6) (o7 : s_op t7 = s_op t6) => ?_)
    obtain ⟨a7, p7, h7, g7, w7, -⟩ := id i_t7
    have k7 : K (s_at t7) = K (s_at t6) := congrArg K e7
    exact Ok_ret ⟨i_t7, show s_at s ≤ s_at t7 from by omega, show s_op t7 = s_op s from by omega, show 0 < 16387 from by omega, (fun q => by cases q)⟩
  · refine Ok_ifz0 ?_
    refine Ok_name G i_t1 (fun t8 i_t8 (e8 : s_at t8 = s_at t1 + 1) (o8 : s_op t8 = s_op t1) => ?_)
    obtain ⟨a8, p8, h8, g8, w8, -⟩ := id i_t8
    refine Ok_rc (R 44 (by decide) _ _ _ i_t8 (pkf pk_44) (pnf (by decide)) (by decide) (by decide) (rkl rk_44 (show 1 + 16 * (30 - (s_op t8)) < n from by omega))) bd_44 (fun v9 t9 i_t9 (e9 : s_at t8 ≤ s_at t9) (o9 : s_op t9 = s_op t8) b9 => ?_)
    obtain ⟨a9, p9, h9, g9, w9, -⟩ := id i_t9
    refine Ok_rc (R 47 (by decide) _ _ _ i_t9 (pkf pk_47) (pnf (by decide)) (by decide) (by decide) (rkl rk_47 (show 0 + 16 * (30 - (s_op t9)) < n from by omega))) bd_47 (fun v10 t10 i_t10 (e10 : s_at t9 ≤ s_at t10) (o10 : s_op t10 = s_op t9) b10 => ?_)
    obtain ⟨a10, p10, h10, g10, w10, -⟩ := id i_t10
    refine Ok_ifz0 ?_
    refine Ok_put G i_t10 (by decide) (fun t11 i_t11 (e11 : s_at t11 = s_at t10) (o11 : s_op t11 = s_op t10) => ?_)
    obtain ⟨a11, p11, h11, g11, w11, -⟩ := id i_t11
    have k11 : K (s_at t11) = K (s_at t10) := congrArg K e11
    exact Ok_ret ⟨i_t11, show s_at s ≤ s_at t11 from by omega, show s_op t11 = s_op s from by omega, show 0 < 16387 from by omega, (fun q => by cases q)⟩
theorem T_X1_receiver {cnt N : Nat} {K : Nat → Nat} (G : Kg cnt N K) {n : Nat} {rc : Nat → Nat → Nat → Ss → Rs Ss} (R : Sp cnt N K n rc) {s : Ss} (i_s : Iv cnt N s) (hm : 0 + 16 * (30 - s_op s) < n + 1) : Ok (Po cnt N K s (s_op s) 16387 false) (Iv cnt N) (b_X1_receiver K N rc s) := by
  obtain ⟨hc, hN, hk, hz9⟩ := id G
  obtain ⟨a0, p0, h0, g0, w0, -⟩ := id i_s
  unfold b_X1_receiver
  refine Ok_enter G i_s (by decide) (by decide) (fun t1 i_t1 (e1 : s_at t1 = s_at s + 1) (o1 : s_op t1 = s_op s + 1) => ?_)
  obtain ⟨a1, p1, h1, g1, w1, -⟩ := id i_t1
  refine Ok_sees G (by decide) (fun (q2 : K (s_at t1) = 1) => ?_) (fun (q2 : K (s_at t1) ≠ 1) => ?_)
  · refine Ok_ifz1 ?_
    refine Ok_name G i_t1 (fun t3 i_t3 (e3 : s_at t3 = s_at t1 + 1) (o3 : s_op t3 = s_op t1) => ?_)
    obtain ⟨a3, p3, h3, g3, w3, -⟩ := id i_t3
    refine Ok_sees G (by decide) (fun (q4 : K (s_at t3) = 79) => ?_) (fun (q4 : K (s_at t3) ≠ 79) => ?_)
    · refine Ok_ifz1 ?_
      refine Ok_leave G i_t3 (by decide) (by decide) (show s_op t3 ≠ 0 from by omega) (fun t5 i_t5 (e5 : s_at t5 = s_at t3 + 1) (o5 : s_op t5 = s_op t3 - 1) => ?_)
      obtain ⟨a5, p5, h5, g5, w5, -⟩ := id i_t5
      refine Ok_put G i_t5 (by decide) (fun t6 i_t6 (e6 : s_at t6 = s_at t5) (o6 : s_op t6 = s_op t5) => ?_)
      obtain ⟨a6, p6, h6, g6, w6, -⟩ := id i_t6
      have k6 : K (s_at t6) = K (s_at t5) := congrArg K e6
      exact Ok_ret ⟨i_t6, show s_at s ≤ s_at t6 from by omega, show s_op t6 = s_op s from by omega, show 0 < 16387 from by omega, (fun q => by cases q)⟩
    · refine Ok_ifz0 ?_
      refine Ok_rc (R 26 (by decide) _ _ _ i_t3 (pkf pk_26) (pnf (by decide)) (by decide) (by decide) (rkl rk_26 (show 0 + 16 * (30 - (s_op t3)) < n from by omega))) bd_26 (fun v7 t7 i_t7 (e7 : s_at t3 ≤ s_at t7) (o7 : s_op t7 = s_op t3) b7 => ?_)
      obtain ⟨a7, p7, h7, g7, w7, -⟩ := id i_t7
      refine Ok_leave G i_t7 (by decide) (by decide) (show s_op t7 ≠ 0 from by omega) (fun t8 i_t8 (e8 : s_at t8 = s_at t7 + 1) (o8 : s_op t8 = s_op t7 - 1) => ?_)
      obtain ⟨a8, p8, h8, g8, w8, -⟩ := id i_t8
      refine Ok_put G i_t8 (by decide) (fun t9 i_t9 (e9 : s_at t9 = s_at t8) (o9 : s_op t9 = s_op t8) => ?_)
      obtain ⟨a9, p9, h9, g9, w9, -⟩ := id i_t9
      have k9 : K (s_at t9) = K (s_at t8) := congrArg K e9
      exact Ok_ret ⟨i_t9, show s_at s ≤ s_at t9 from by omega, show s_op t9 = s_op s from by omega, show 0 < 16387 from by omega, (fun q => by cases q)⟩
  · refine Ok_ifz0 ?_
    refine Ok_rc (R 26 (by decide) _ _ _ i_t1 (pkf pk_26) (pnf (by decide)) (by decide) (by decide) (rkl rk_26 (show 0 + 16 * (30 - (s_op t1)) < n from by omega))) bd_26 (fun v10 t10 i_t10 (e10 : s_at t1 ≤ s_at t10) (o10 : s_op t10 = s_op t1) b10 => ?_)
    obtain ⟨a10, p10, h10, g10, w10, -⟩ := id i_t10
    refine Ok_leave G i_t10 (by decide) (by decide) (show s_op t10 ≠ 0 from by omega) (fun t11 i_t11 (e11 : s_at t11 = s_at t10 + 1) (o11 : s_op t11 = s_op t10 - 1) => ?_)
    obtain ⟨a11, p11, h11, g11, w11, -⟩ := id i_t11
    refine Ok_put G i_t11 (by decide) (fun t12 i_t12 (e12 : s_at t12 = s_at t11) (o12 : s_op t12 = s_op t11) => ?_)
    obtain ⟨a12, p12, h12, g12, w12, -⟩ := id i_t12
    have k12 : K (s_at t12) = K (s_at t11) := congrArg K e12
    exact Ok_ret ⟨i_t12, show s_at s ≤ s_at t12 from by omega, show s_op t12 = s_op s from by omega, show 0 < 16387 from by omega, (fun q => by cases q)⟩
theorem T_X1_type {cnt N : Nat} {K : Nat → Nat} (G : Kg cnt N K) {n : Nat} {rc : Nat → Nat → Nat → Ss → Rs Ss} (R : Sp cnt N K n rc) {s : Ss} (i_s : Iv cnt N s) (hm : 0 + 16 * (30 - s_op s) < n + 1) : Ok (Po cnt N K s (s_op s) 16387 false) (Iv cnt N) (b_X1_type K N rc s) := by
  obtain ⟨hc, hN, hk, hz9⟩ := id G
  obtain ⟨a0, p0, h0, g0, w0, -⟩ := id i_s
  unfold b_X1_type
  refine Ok_sees G (by decide) (fun (q1 : K (s_at s) = 1) => ?_) (fun (q1 : K (s_at s) ≠ 1) => ?_)
  · refine Ok_ifz1 ?_
    refine Ok_name G i_s (fun t2 i_t2 (e2 : s_at t2 = s_at s + 1) (o2 : s_op t2 = s_op s) => ?_)
    obtain ⟨a2, p2, h2, g2, w2, -⟩ := id i_t2
    exact Ok_ret ⟨i_t2, show s_at s ≤ s_at t2 from by omega, show s_op t2 = s_op s from by omega, show 0 < 16387 from by omega, (fun q => by cases q)⟩
  · refine Ok_ifz0 ?_
    refine Ok_ck (G.b _) ?_
    refine Ok_ifz (Nat.lt_trans (fb_beginsType _) (by decide)) (fun q3 => ?_) (fun q3 => ?_)
    · exact Ok_er i_s
    · have q3n := fn_beginsType q3
      refine Ok_opn i_s (fun t4 i_t4 (e4 : s_at t4 = s_at s) (o4 : s_op t4 = s_op s + 1) => ?_)
      obtain ⟨a4, p4, h4, g4, w4, -⟩ := id i_t4
      have k4 : K (s_at t4) = K (s_at s) := congrArg K e4
      refine Ok_ck (G.b _) ?_
      refine Ok_ife (G.b _) (by decide) (fun q5 => ?_) (fun q5 => ?_)
      · refine Ok_rc (R 100 (by decide) _ _ _ i_t4 (pkt (show K (s_at t4) ≠ 0 from by omega)) (pnf (by decide)) (by decide) (by decide) (rkl rk_100 (show 1 + 16 * (30 - (s_op t4)) < n from by omega))) bd_100 (fun v6 t6 i_t6 (e6 : s_at t4 ≤ s_at t6) (o6 : s_op t6 = s_op t4) b6 => ?_)
        obtain ⟨a6, p6, h6, g6, w6, -⟩ := id i_t6
        refine Ok_close i_t6 (show s_op t6 ≠ 0 from by omega) (fun t7 i_t7 (e7 : s_at t7 = s_at t6) (o7 : s_op t7 = s_op t6 - 1) => ?_)
        obtain ⟨a7, p7, h7, g7, w7, -⟩ := id i_t7
        have k7 : K (s_at t7) = K (s_at t6) := congrArg K e7
        exact Ok_ret ⟨i_t7, show s_at s ≤ s_at t7 from by omega, show s_op t7 = s_op s from by omega, show 0 < 16387 from by omega, (fun q => by cases q)⟩
      · refine Ok_ife (G.b _) (by decide) (fun q8 => ?_) (fun q8 => ?_)
        · refine Ok_rc (R 104 (by decide) _ _ _ i_t4 (pkt (show K (s_at t4) ≠ 0 from by omega)) (pnf (by decide)) (by decide) (by decide) (rkl rk_104 (show 2 + 16 * (30 - (s_op t4)) < n from by omega))) bd_104 (fun v9 t9 i_t9 (e9 : s_at t4 ≤ s_at t9) (o9 : s_op t9 = s_op t4) b9 => ?_)
          obtain ⟨a9, p9, h9, g9, w9, -⟩ := id i_t9
          refine Ok_close i_t9 (show s_op t9 ≠ 0 from by omega) (fun t10 i_t10 (e10 : s_at t10 = s_at t9) (o10 : s_op t10 = s_op t9 - 1) => ?_)
          obtain ⟨a10, p10, h10, g10, w10, -⟩ := id i_t10
          have k10 : K (s_at t10) = K (s_at t9) := congrArg K e10
          exact Ok_ret ⟨i_t10, show s_at s ≤ s_at t10 from by omega, show s_op t10 = s_op s from by omega, show 0 < 16387 from by omega, (fun q => by cases q)⟩
        · refine Ok_ife (G.b _) (by decide) (fun q11 => ?_) (fun q11 => ?_)
          · refine Ok_rc (R 99 (by decide) _ _ _ i_t4 (pkt (show K (s_at t4) ≠ 0 from by omega)) (pnf (by decide)) (by decide) (by decide) (rkl rk_99 (show 1 + 16 * (30 - (s_op t4)) < n from by omega))) bd_99 (fun v12 t12 i_t12 (e12 : s_at t4 ≤ s_at t12) (o12 : s_op t12 = s_op t4) b12 => ?_)
            obtain ⟨a12, p12, h12, g12, w12, -⟩ := id i_t12
            refine Ok_close i_t12 (show s_op t12 ≠ 0 from by omega) (fun t13 i_t13 (e13 : s_at t13 = s_at t12) (o13 : s_op t13 = s_op t12 - 1) => ?_)
            obtain ⟨a13, p13, h13, g13, w13, -⟩ := id i_t13
            have k13 : K (s_at t13) = K (s_at t12) := congrArg K e13
            exact Ok_ret ⟨i_t13, show s_at s ≤ s_at t13 from by omega, show s_op t13 = s_op s from by omega, show 0 < 16387 from by omega, (fun q => by cases q)⟩
          · refine Ok_ife (G.b _) (by decide) (fun q14 => ?_) (fun q14 => ?_)
            · refine Ok_rc (R 103 (by decide) _ _ _ i_t4 (pkt (show K (s_at t4) ≠ 0 from by omega)) (pnf (by decide)) (by decide) (by decide) (rkl rk_103 (show 0 + 16 * (30 - (s_op t4)) < n from by omega))) bd_103 (fun v15 t15 i_t15 (e15 : s_at t4 ≤ s_at t15) (o15 : s_op t15 = s_op t4) b15 => ?_)
              obtain ⟨a15, p15, h15, g15, w15, -⟩ := id i_t15
              refine Ok_close i_t15 (show s_op t15 ≠ 0 from by omega) (fun t16 i_t16 (e16 : s_at t16 = s_at t15) (o16 : s_op t16 = s_op t15 - 1) => ?_)
              obtain ⟨a16, p16, h16, g16, w16, -⟩ := id i_t16
              have k16 : K (s_at t16) = K (s_at t15) := congrArg K e16
              exact Ok_ret ⟨i_t16, show s_at s ≤ s_at t16 from by omega, show s_op t16 = s_op s from by omega, show 0 < 16387 from by omega, (fun q => by cases q)⟩
            · refine Ok_ife (G.b _) (by decide) (fun q17 => ?_) (fun q17 => ?_)
              · refine Ok_rc (R 102 (by decide) _ _ _ i_t4 (pkt (show K (s_at t4) ≠ 0 from by omega)) (pnf (by decide)) (by decide) (by decide) (rkl rk_102 (show 1 + 16 * (30 - (s_op t4)) < n from by omega))) bd_102 (fun v18 t18 i_t18 (e18 : s_at t4 ≤ s_at t18) (o18 : s_op t18 = s_op t4) b18 => ?_)
                obtain ⟨a18, p18, h18, g18, w18, -⟩ := id i_t18
                refine Ok_close i_t18 (show s_op t18 ≠ 0 from by omega) (fun t19 i_t19 (e19 : s_at t19 = s_at t18) (o19 : s_op t19 = s_op t18 - 1) => ?_)
                obtain ⟨a19, p19, h19, g19, w19, -⟩ := id i_t19
                have k19 : K (s_at t19) = K (s_at t18) := congrArg K e19
                exact Ok_ret ⟨i_t19, show s_at s ≤ s_at t19 from by omega, show s_op t19 = s_op s from by omega, show 0 < 16387 from by omega, (fun q => by cases q)⟩
              · refine Ok_ife (G.b _) (by decide) (fun q20 => ?_) (fun q20 => ?_)
                · refine Ok_rc (R 101 (by decide) _ _ _ i_t4 (pkt (show K (s_at t4) ≠ 0 from by omega)) (pnf (by decide)) (by decide) (by decide) (rkl rk_101 (show 1 + 16 * (30 - (s_op t4)) < n from by omega))) bd_101 (fun v21 t21 i_t21 (e21 : s_at t4 ≤ s_at t21) (o21 : s_op t21 = s_op t4) b21 => ?_)
                  obtain ⟨a21, p21, h21, g21, w21, -⟩ := id i_t21
                  refine Ok_close i_t21 (show s_op t21 ≠ 0 from by omega) (fun t22 i_t22 (e22 : s_at t22 = s_at t21) (o22 : s_op t22 = s_op t21 - 1) => ?_)
                  obtain ⟨a22, p22, h22, g22, w22, -⟩ := id i_t22
                  have k22 : K (s_at t22) = K (s_at t21) := congrArg K e22
                  exact Ok_ret ⟨i_t22, show s_at s ≤ s_at t22 from by omega, show s_op t22 = s_op s from by omega, show 0 < 16387 from by omega, (fun q => by cases q)⟩
                · refine Ok_ife (G.b _) (by decide) (fun q23 => ?_) (fun q23 => ?_)
                  · refine Ok_take G i_t4 (show K (s_at t4) ≠ 0 from by omega) (fun t24 i_t24 (e24 : s_at t24 = s_at t4 + 1) (o24 : s_op t24 = s_op t4) => ?_)
                    obtain ⟨a24, p24, h24, g24, w24, -⟩ := id i_t24
                    refine Ok_rc (R 26 (by decide) _ _ _ i_t24 (pkf pk_26) (pnf (by decide)) (by decide) (by decide) (rkl rk_26 (show 0 + 16 * (30 - (s_op t24)) < n from by omega))) bd_26 (fun v25 t25 i_t25 (e25 : s_at t24 ≤ s_at t25) (o25 : s_op t25 = s_op t24) b25 => ?_)
                    obtain ⟨a25, p25, h25, g25, w25, -⟩ := id i_t25
                    refine Ok_expect G i_t25 (by decide) (by decide) (fun t26 i_t26 (e26 : s_at t26 = s_at t25 + 1) (o26 : s_op t26 = s_op t25) => ?_)
                    obtain ⟨a26, p26, h26, g26, w26, -⟩ := id i_t26
                    refine Ok_close i_t26 (show s_op t26 ≠ 0 from by omega) (fun t27 i_t27 (e27 : s_at t27 = s_at t26) (o27 : s_op t27 = s_op t26 - 1) => ?_)
                    obtain ⟨a27, p27, h27, g27, w27, -⟩ := id i_t27
                    have k27 : K (s_at t27) = K (s_at t26) := congrArg K e27
                    exact Ok_ret ⟨i_t27, show s_at s ≤ s_at t27 from by omega, show s_op t27 = s_op s from by omega, show 0 < 16387 from by omega, (fun q => by cases q)⟩
                  · refine Ok_ife (G.b _) (by decide) (fun q28 => ?_) (fun q28 => ?_)
                    · refine Ok_rc (R 28 (by decide) _ _ _ i_t4 (pkt (show K (s_at t4) ≠ 0 from by omega)) (pnf (by decide)) (by decide) (by decide) (rkl rk_28 (show 5 + 16 * (30 - (s_op t4)) < n from by omega))) bd_28 (fun v29 t29 i_t29 (e29 : s_at t4 ≤ s_at t29) (o29 : s_op t29 = s_op t4) b29 => ?_)
                      obtain ⟨a29, p29, h29, g29, w29, -⟩ := id i_t29
                      refine Ok_close i_t29 (show s_op t29 ≠ 0 from by omega) (fun t30 i_t30 (e30 : s_at t30 = s_at t29) (o30 : s_op t30 = s_op t29 - 1) => ?_)
                      obtain ⟨a30, p30, h30, g30, w30, -⟩ := id i_t30
                      have k30 : K (s_at t30) = K (s_at t29) := congrArg K e30
                      exact Ok_ret ⟨i_t30, show s_at s ≤ s_at t30 from by omega, show s_op t30 = s_op s from by omega, show 0 < 16387 from by omega, (fun q => by cases q)⟩
                    · refine Ok_rc (R 105 (by decide) _ _ _ i_t4 (pkt (show K (s_at t4) ≠ 0 from by omega)) (pnf (by decide)) (by decide) (by decide) (rkl rk_105 (show 0 + 16 * (30 - (s_op t4)) < n from by omega))) bd_105 (fun v31 t31 i_t31 (e31 : s_at t4 ≤ s_at t31) (o31 : s_op t31 = s_op t4) b31 => ?_)
                      obtain ⟨a31, p31, h31, g31, w31, -⟩ := id i_t31
                      refine Ok_close i_t31 (show s_op t31 ≠ 0 from by omega) (fun t32 i_t32 (e32 : s_at t32 = s_at t31) (o32 : s_op t32 = s_op t31 - 1) => ?_)
                      obtain ⟨a32, p32, h32, g32, w32, -⟩ := id i_t32
                      have k32 : K (s_at t32) = K (s_at t31) := congrArg K e32
                      exact Ok_ret ⟨i_t32, show s_at s ≤ s_at t32 from by omega, show s_op t32 = s_op s from by omega, show 0 < 16387 from by omega, (fun q => by cases q)⟩
theorem T_X1_listType {cnt N : Nat} {K : Nat → Nat} (G : Kg cnt N K) {n : Nat} {rc : Nat → Nat → Nat → Ss → Rs Ss} (R : Sp cnt N K n rc) {s : Ss} (i_s : Iv cnt N s) (hz : K (s_at s) ≠ 0) (hm : 5 + 16 * (30 - s_op s) < n + 1) : Ok (Po cnt N K s (s_op s) 16387 false) (Iv cnt N) (b_X1_listType K N rc s) := by
  obtain ⟨hc, hN, hk, hz9⟩ := id G
  obtain ⟨a0, p0, h0, g0, w0, -⟩ := id i_s
  unfold b_X1_listType
  refine Ok_take G i_s (show K (s_at s) ≠ 0 from by omega) (fun t1 i_t1 (e1 : s_at t1 = s_at s + 1) (o1 : s_op t1 = s_op s) => ?_)
  obtain ⟨a1, p1, h1, g1, w1, -⟩ := id i_t1
  refine Ok_sees G (by decide) (fun (q2 : K (s_at t1) = 81) => ?_) (fun (q2 : K (s_at t1) ≠ 81) => ?_)
  · refine Ok_ifz1 ?_
    refine Ok_expect G i_t1 (by decide) (by decide) (fun t3 i_t3 (e3 : s_at t3 = s_at t1 + 1) (o3 : s_op t3 = s_op t1) => ?_)
    obtain ⟨a3, p3, h3, g3, w3, -⟩ := id i_t3
    refine Ok_rc (R 26 (by decide) _ _ _ i_t3 (pkf pk_26) (pnf (by decide)) (by decide) (by decide) (rkl rk_26 (show 0 + 16 * (30 - (s_op t3)) < n from by omega))) bd_26 (fun v4 t4 i_t4 (e4 : s_at t3 ≤ s_at t4) (o4 : s_op t4 = s_op t3) b4 => ?_)
    obtain ⟨a4, p4, h4, g4, w4, -⟩ := id i_t4
    refine Ok_put G i_t4 (by decide) (fun t5 i_t5 (e5 : s_at t5 = s_at t4) (o5 : s_op t5 = s_op t4) => ?_)
    obtain ⟨a5, p5, h5, g5, w5, -⟩ := id i_t5
    have k5 : K (s_at t5) = K (s_at t4) := congrArg K e5
    exact Ok_ret ⟨i_t5, show s_at s ≤ s_at t5 from by omega, show s_op t5 = s_op s from by omega, show 0 < 16387 from by omega, (fun q => by cases q)⟩
  · refine Ok_ifz0 ?_
    refine Ok_rc (R 29 (by decide) _ _ _ (Iv_ih i_t1 (show 0 < 2 from by omega)) (pkf pk_29) (pnf (by decide)) (by decide) (by decide) (rkl rk_29 (show 4 + 16 * (30 - (s_op t1)) < n from by omega))) bd_29 (fun v6 t6 i_t6 (e6 : s_at t1 ≤ s_at t6) (o6 : s_op t6 = s_op t1) b6 => ?_)
    obtain ⟨a6, p6, h6, g6, w6, -⟩ := id i_t6
    refine Ok_ck (show (s_ih t1) < 2 from by omega) ?_
    refine Ok_expect G (Iv_ih i_t6 (show s_ih t1 < 2 from by omega)) (by decide) (by decide) (fun t7 i_t7 (e7 : s_at t7 = s_at t6 + 1) (o7 : s_op t7 = s_op t6) => ?_)
    obtain ⟨a7, p7, h7, g7, w7, -⟩ := id i_t7
    refine Ok_rc (R 26 (by decide) _ _ _ i_t7 (pkf pk_26) (pnf (by decide)) (by decide) (by decide) (rkl rk_26 (show 0 + 16 * (30 - (s_op t7)) < n from by omega))) bd_26 (fun v8 t8 i_t8 (e8 : s_at t7 ≤ s_at t8) (o8 : s_op t8 = s_op t7) b8 => ?_)
    obtain ⟨a8, p8, h8, g8, w8, -⟩ := id i_t8
    refine Ok_put G i_t8 (by decide) (fun t9 i_t9 (e9 : s_at t9 = s_at t8) (o9 : s_op t9 = s_op t8) => ?_)
    obtain ⟨a9, p9, h9, g9, w9, -⟩ := id i_t9
    have k9 : K (s_at t9) = K (s_at t8) := congrArg K e9
    exact Ok_ret ⟨i_t9, show s_at s ≤ s_at t9 from by omega, show s_op t9 = s_op s from by omega, show 0 < 16387 from by omega, (fun q => by cases q)⟩
theorem T_lp_X1_expr_21 {cnt N : Nat} {K : Nat → Nat} (G : Kg cnt N K) {n : Nat} {rc : Nat → Nat → Nat → Ss → Rs Ss} (R : Sp cnt N K n rc) : ∀ (f y2 y3 : Nat) (s : Ss), Iv cnt N s → 16387 ≤ f + y3 → y3 ≤ 16386 → y2 ≤ 155 → y2 < 16387 → y3 < 16387 → 3 + 16 * (30 - s_op s) < n → Ok (Po cnt N K s (s_op s) 16387 false) (Iv cnt N) (lp_X1_expr_21 K N rc f y2 y3 s) := by
  obtain ⟨hc, hN, hk, hz9⟩ := id G
  intro f
  induction f with
  | zero => intro y2 y3 s i_s c1 c2 j0 hy2 hy3 hm; omega
  | succ f ih =>
    intro y2 y3 s i_s c1 c2 j0 hy2 hy3 hm
    obtain ⟨a0, p0, h0, g0, w0, -⟩ := id i_s
    rw [lp_X1_expr_21]
    refine Ok_ifl (show y3 < 2147483648 from by omega) (by decide) (fun q1 => ?_) (fun q1 => ?_)
    · refine Ok_ck (G.b _) ?_
      refine Ok_ifz (Nat.lt_trans (fb_binding _) (by decide)) (fun q2 => ?_) (fun q2 => ?_)
      · refine Ok_pw G i_s (show y2 < 20000 from by omega) (by decide) (fun t3 i_t3 (e3 : s_at t3 = s_at s) (o3 : s_op t3 = s_op s) => ?_)
        obtain ⟨a3, p3, h3, g3, w3, -⟩ := id i_t3
        have k3 : K (s_at t3) = K (s_at s) := congrArg K e3
        exact Ok_ret ⟨i_t3, show s_at s ≤ s_at t3 from by omega, show s_op t3 = s_op s from by omega, show 0 < 16387 from by omega, (fun q => by cases q)⟩
      · have q2n := fn_binding q2
        refine Ok_ck (G.b _) ?_
        refine Ok_pw G i_s (show y2 < 20000 from by omega) (Nat.lt_trans (fb_binding _) (by decide)) (fun t4 i_t4 (e4 : s_at t4 = s_at s) (o4 : s_op t4 = s_op s) => ?_)
        obtain ⟨a4, p4, h4, g4, w4, -⟩ := id i_t4
        have k4 : K (s_at t4) = K (s_at s) := congrArg K e4
        refine Ok_take G i_t4 (show K (s_at t4) ≠ 0 from by omega) (fun t5 i_t5 (e5 : s_at t5 = s_at t4 + 1) (o5 : s_op t5 = s_op t4) => ?_)
        obtain ⟨a5, p5, h5, g5, w5, -⟩ := id i_t5
        refine Ok_await i_t5 (show s_at t4 ≤ cnt from by omega) (fun t6 i_t6 (e6 : s_at t6 = s_at t5) (o6 : s_op t6 = s_op t5) => ?_)
        obtain ⟨a6, p6, h6, g6, w6, -⟩ := id i_t6
        have k6 : K (s_at t6) = K (s_at t5) := congrArg K e6
        refine Ok_rc (R 30 (by decide) _ _ _ i_t6 (pkf pk_30) (pnf (by decide)) (by decide) (by decide) (rkl rk_30 (show 3 + 16 * (30 - (s_op t6)) < n from by omega))) bd_30 (fun v7 t7 i_t7 (e7 : s_at t6 ≤ s_at t7) (o7 : s_op t7 = s_op t6) b7 => ?_)
        obtain ⟨a7, p7, h7, g7, w7, -⟩ := id i_t7
        refine Ok_imp (ih y2 (y3 + 1) _ i_t7 (show 16387 ≤ f + (y3 + 1) from by omega) (show y3 + 1 ≤ 16386 from by omega) (show y2 ≤ 155 from by omega) (show y2 < 16387 from by omega) (show y3 + 1 < 16387 from by omega) (show 3 + 16 * (30 - (s_op t7)) < n from by omega)) (fun v8 t8 z8 => ?_)
        obtain ⟨i_t8, e8, o8, b8, x8⟩ := z8
        have e8 : s_at t7 ≤ s_at t8 := e8
        have o8 : s_op t8 = (s_op t7) := o8
        exact ⟨i_t8, by omega, by omega, by omega, (fun q => by cases q)⟩
    · refine Ok_pw G i_s (show y2 < 20000 from by omega) (by decide) (fun t9 i_t9 (e9 : s_at t9 = s_at s) (o9 : s_op t9 = s_op s) => ?_)
      obtain ⟨a9, p9, h9, g9, w9, -⟩ := id i_t9
      have k9 : K (s_at t9) = K (s_at s) := congrArg K e9
      exact Ok_ret ⟨i_t9, show s_at s ≤ s_at t9 from by omega, show s_op t9 = s_op s from by omega, show 0 < 16387 from by omega, (fun q => by cases q)⟩
theorem T_X1_expr {cnt N : Nat} {K : Nat → Nat} (G : Kg cnt N K) {n : Nat} {rc : Nat → Nat → Nat → Ss → Rs Ss} (R : Sp cnt N K n rc) {x1 : Nat} {s : Ss} (i_s : Iv cnt N s) (hx1 : x1 < 16387) (hm : 4 + 16 * (30 - s_op s) < n + 1) : Ok (Po cnt N K s (s_op s) 16387 false) (Iv cnt N) (b_X1_expr K N rc x1 s) := by
  obtain ⟨hc, hN, hk, hz9⟩ := id G
  obtain ⟨a0, p0, h0, g0, w0, -⟩ := id i_s
  unfold b_X1_expr
  refine Ok_rc (R 30 (by decide) _ _ _ i_s (pkf pk_30) (pnf (by decide)) (show x1 < 16387 from by omega) (by decide) (rkl rk_30 (show 3 + 16 * (30 - (s_op s)) < n from by omega))) bd_30 (fun v1 t1 i_t1 (e1 : s_at s ≤ s_at t1) (o1 : s_op t1 = s_op s) b1 => ?_)
  obtain ⟨a1, p1, h1, g1, w1, -⟩ := id i_t1
  refine Ok_ife (show s_gw t1 < 2147483648 from by omega) (by decide) (fun q2 => ?_) (fun q2 => ?_)
  · refine Ok_imp (T_lp_X1_expr_21 G R LF (s_wc s) 0 _ i_t1 (show 16387 ≤ LF + 0 from by unfold LF; omega) (show 0 ≤ 16386 from by omega) (show (s_wc s) ≤ 155 from by omega) (show s_wc s < 16387 from by omega) (by decide) (show 3 + 16 * (30 - (s_op t1)) < n from by omega)) (fun v3 t3 z3 => ?_)
    obtain ⟨i_t3, e3, o3, b3, x3⟩ := z3
    have e3 : s_at t1 ≤ s_at t3 := e3
    have o3 : s_op t3 = (s_op t1) := o3
    exact ⟨i_t3, by omega, by omega, by omega, (fun q => by cases q)⟩
  · exact Ok_ret ⟨i_t1, show s_at s ≤ s_at t1 from by omega, show s_op t1 = s_op s from by omega, show 0 < 16387 from by omega, (fun q => by cases q)⟩
theorem T_lp_X1_unary_58 {cnt N : Nat} {K : Nat → Nat} (G : Kg cnt N K) {n : Nat} {rc : Nat → Nat → Nat → Ss → Rs Ss} (R : Sp cnt N K n rc) : ∀ (f y2 y4 : Nat) (s : Ss), Iv cnt N s → y4 < f → y4 ≤ s_op s → y2 < 16387 → y4 < 16387 → Ok (Po cnt N K s (s_op s - y4) 16387 false) (Iv cnt N) (lp_X1_unary_58 K N rc f y2 y4 s) := by
  obtain ⟨hc, hN, hk, hz9⟩ := id G
  intro f
  induction f with
  | zero => intro y2 y4 s i_s c1 j0 hy2 hy4; omega
  | succ f ih =>
    intro y2 y4 s i_s c1 j0 hy2 hy4
    obtain ⟨a0, p0, h0, g0, w0, -⟩ := id i_s
    rw [lp_X1_unary_58]
    refine Ok_ifz (show y4 < 2147483648 from by omega) (fun q1 => ?_) (fun q1 => ?_)
    · exact Ok_ret ⟨i_s, show s_at s ≤ s_at s from by omega, show s_op s = s_op s - y4 from by omega, show 0 < 16387 from by omega, (fun q => by cases q)⟩
    · refine Ok_ck (show y4 ≠ 0 from by omega) ?_
      refine Ok_put G i_s (by decide) (fun t2 i_t2 (e2 : s_at t2 = s_at s) (o2 : s_op t2 = s_op s) => ?_)
      obtain ⟨a2, p2, h2, g2, w2, -⟩ := id i_t2
      have k2 : K (s_at t2) = K (s_at s) := congrArg K e2
      refine Ok_close i_t2 (show s_op t2 ≠ 0 from by omega) (fun t3 i_t3 (e3 : s_at t3 = s_at t2) (o3 : s_op t3 = s_op t2 - 1) => ?_)
      obtain ⟨a3, p3, h3, g3, w3, -⟩ := id i_t3
      have k3 : K (s_at t3) = K (s_at t2) := congrArg K e3
      refine Ok_ck (show y4 ≠ 0 from by omega) ?_
      refine Ok_imp (ih y2 (y4 - 1) _ i_t3 (show y4 - 1 < f from by omega) (show (y4 - 1) ≤ (s_op t3) from by omega) (show y2 < 16387 from by omega) (show y4 - 1 < 16387 from by omega)) (fun v4 t4 z4 => ?_)
      obtain ⟨i_t4, e4, o4, b4, x4⟩ := z4
      have e4 : s_at t3 ≤ s_at t4 := e4
      have o4 : s_op t4 = (s_op t3) - (y4 - 1) := o4
      exact ⟨i_t4, by omega, by omega, by omega, (fun q => by cases q)⟩
theorem T_lp_X1_unary_7 {cnt N : Nat} {K : Nat → Nat} (G : Kg cnt N K) {n : Nat} {rc : Nat → Nat → Nat → Ss → Rs Ss} (R : Sp cnt N K n rc) : ∀ (f y1 y2 y3 : Nat) (s : Ss), Iv cnt N s → 16387 ≤ f + y3 → y3 ≤ 16386 → y3 ≤ s_op s → y1 < 16387 → y2 < 16387 → y3 < 16387 → 2 + 16 * (30 - s_op s) < n → Ok (Po cnt N K s (s_op s - y3) 16387 false) (Iv cnt N) (lp_X1_unary_7 K N rc f y1 y2 y3 s) := by
  obtain ⟨hc, hN, hk, hz9⟩ := id G
  intro f
  induction f with
  | zero => intro y1 y2 y3 s i_s c1 c2 j0 hy1 hy2 hy3 hm; omega
  | succ f ih =>
    intro y1 y2 y3 s i_s c1 c2 j0 hy1 hy2 hy3 hm
    obtain ⟨a0, p0, h0, g0, w0, -⟩ := id i_s
    rw [lp_X1_unary_7]
    refine Ok_ifl (show y3 < 2147483648 from by omega) (by decide) (fun q1 => ?_) (fun q1 => ?_)
    · refine Ok_sus G i_s (fun (q2 : K (s_at s) ≠ 0) => ?_) ?_
      · refine Ok_ifz1 ?_
        refine Ok_opn i_s (fun t3 i_t3 (e3 : s_at t3 = s_at s) (o3 : s_op t3 = s_op s + 1) => ?_)
        obtain ⟨a3, p3, h3, g3, w3, -⟩ := id i_t3
        have k3 : K (s_at t3) = K (s_at s) := congrArg K e3
        refine Ok_take G i_t3 (show K (s_at t3) ≠ 0 from by omega) (fun t4 i_t4 (e4 : s_at t4 = s_at t3 + 1) (o4 : s_op t4 = s_op t3) => ?_)
        obtain ⟨a4, p4, h4, g4, w4, -⟩ := id i_t4
        refine Ok_imp (ih y1 y2 (y3 + 1) _ i_t4 (show 16387 ≤ f + (y3 + 1) from by omega) (show y3 + 1 ≤ 16386 from by omega) (show (y3 + 1) ≤ (s_op t4) from by omega) (show y1 < 16387 from by omega) (show y2 < 16387 from by omega) (show y3 + 1 < 16387 from by omega) (show 2 + 16 * (30 - (s_op t4)) < n from by omega)) (fun v5 t5 z5 => ?_)
        obtain ⟨i_t5, e5, o5, b5, x5⟩ := z5
        have e5 : s_at t4 ≤ s_at t5 := e5
        have o5 : s_op t5 = (s_op t4) - (y3 + 1) := o5
        exact ⟨i_t5, by omega, by omega, by omega, (fun q => by cases q)⟩
      · refine Ok_ifz0 ?_
        refine Ok_ifz (show y1 < 2147483648 from by omega) (fun q6 => ?_) (fun q6 => ?_)
        · refine Ok_rc (R 34 (by decide) _ _ _ i_s (pkf pk_34) (pnf (by decide)) (by decide) (by decide) (rkl rk_34 (show 2 + 16 * (30 - (s_op s)) < n from by omega))) bd_34 (fun v7 t7 i_t7 (e7 : s_at s ≤ s_at t7) (o7 : s_op t7 = s_op s) b7 => ?_)
          obtain ⟨a7, p7, h7, g7, w7, -⟩ := id i_t7
          refine Ok_imp (T_lp_X1_unary_58 G R LF y2 y3 _ i_t7 (show y3 < LF from by unfold LF; omega) (show y3 ≤ (s_op t7) from by omega) (show y2 < 16387 from by omega) (show y3 < 16387 from by omega)) (fun v8 t8 z8 => ?_)
          obtain ⟨i_t8, e8, o8, b8, x8⟩ := z8
          have e8 : s_at t7 ≤ s_at t8 := e8
          have o8 : s_op t8 = (s_op t7) - y3 := o8
          exact ⟨i_t8, by omega, by omega, by omega, (fun q => by cases q)⟩
        · refine Ok_ifz (show y3 < 2147483648 from by omega) (fun q9 => ?_) (fun q9 => ?_)
          · refine Ok_rc (R 34 (by decide) _ _ _ i_s (pkf pk_34) (pnf (by decide)) (by decide) (by decide) (rkl rk_34 (show 2 + 16 * (30 - (s_op s)) < n from by omega))) bd_34 (fun v10 t10 i_t10 (e10 : s_at s ≤ s_at t10) (o10 : s_op t10 = s_op s) b10 => ?_)
            obtain ⟨a10, p10, h10, g10, w10, -⟩ := id i_t10
            refine Ok_imp (T_lp_X1_unary_58 G R LF y2 y3 _ i_t10 (show y3 < LF from by unfold LF; omega) (show y3 ≤ (s_op t10) from by omega) (show y2 < 16387 from by omega) (show y3 < 16387 from by omega)) (fun v11 t11 z11 => ?_)
            obtain ⟨i_t11, e11, o11, b11, x11⟩ := z11
            have e11 : s_at t10 ≤ s_at t11 := e11
            have o11 : s_op t11 = (s_op t10) - y3 := o11
            exact ⟨i_t11, by omega, by omega, by omega, (fun q => by cases q)⟩
          · refine Ok_rc (R 34 (by decide) _ _ _ i_s (pkf pk_34) (pnf (by decide)) (by decide) (by decide) (rkl rk_34 (show 2 + 16 * (30 - (s_op s)) < n from by omega))) bd_34 (fun v12 t12 i_t12 (e12 : s_at s ≤ s_at t12) (o12 : s_op t12 = s_op s) b12 => ?_)
            obtain ⟨a12, p12, h12, g12, w12, -⟩ := id i_t12
            refine Ok_imp (T_lp_X1_unary_58 G R LF y2 y3 _ i_t12 (show y3 < LF from by unfold LF; omega) (show y3 ≤ (s_op t12) from by omega) (show y2 < 16387 from by omega) (show y3 < 16387 from by omega)) (fun v13 t13 z13 => ?_)
            obtain ⟨i_t13, e13, o13, b13, x13⟩ := z13
            have e13 : s_at t12 ≤ s_at t13 := e13
            have o13 : s_op t13 = (s_op t12) - y3 := o13
            exact ⟨i_t13, by omega, by omega, by omega, (fun q => by cases q)⟩
    · refine Ok_ifz (show y1 < 2147483648 from by omega) (fun q14 => ?_) (fun q14 => ?_)
      · refine Ok_rc (R 34 (by decide) _ _ _ i_s (pkf pk_34) (pnf (by decide)) (by decide) (by decide) (rkl rk_34 (show 2 + 16 * (30 - (s_op s)) < n from by omega))) bd_34 (fun v15 t15 i_t15 (e15 : s_at s ≤ s_at t15) (o15 : s_op t15 = s_op s) b15 => ?_)
        obtain ⟨a15, p15, h15, g15, w15, -⟩ := id i_t15
        refine Ok_imp (T_lp_X1_unary_58 G R LF y2 y3 _ i_t15 (show y3 < LF from by unfold LF; omega) (show y3 ≤ (s_op t15) from by omega) (show y2 < 16387 from by omega) (show y3 < 16387 from by omega)) (fun v16 t16 z16 => ?_)
        obtain ⟨i_t16, e16, o16, b16, x16⟩ := z16
        have e16 : s_at t15 ≤ s_at t16 := e16
        have o16 : s_op t16 = (s_op t15) - y3 := o16
        exact ⟨i_t16, by omega, by omega, by omega, (fun q => by cases q)⟩
      · refine Ok_ifz (show y3 < 2147483648 from by omega) (fun q17 => ?_) (fun q17 => ?_)
        · refine Ok_rc (R 34 (by decide) _ _ _ i_s (pkf pk_34) (pnf (by decide)) (by decide) (by decide) (rkl rk_34 (show 2 + 16 * (30 - (s_op s)) < n from by omega))) bd_34 (fun v18 t18 i_t18 (e18 : s_at s ≤ s_at t18) (o18 : s_op t18 = s_op s) b18 => ?_)
          obtain ⟨a18, p18, h18, g18, w18, -⟩ := id i_t18
          refine Ok_imp (T_lp_X1_unary_58 G R LF y2 y3 _ i_t18 (show y3 < LF from by unfold LF; omega) (show y3 ≤ (s_op t18) from by omega) (show y2 < 16387 from by omega) (show y3 < 16387 from by omega)) (fun v19 t19 z19 => ?_)
          obtain ⟨i_t19, e19, o19, b19, x19⟩ := z19
          have e19 : s_at t18 ≤ s_at t19 := e19
          have o19 : s_op t19 = (s_op t18) - y3 := o19
          exact ⟨i_t19, by omega, by omega, by omega, (fun q => by cases q)⟩
        · refine Ok_rc (R 34 (by decide) _ _ _ i_s (pkf pk_34) (pnf (by decide)) (by decide) (by decide) (rkl rk_34 (show 2 + 16 * (30 - (s_op s)) < n from by omega))) bd_34 (fun v20 t20 i_t20 (e20 : s_at s ≤ s_at t20) (o20 : s_op t20 = s_op s) b20 => ?_)
          obtain ⟨a20, p20, h20, g20, w20, -⟩ := id i_t20
          refine Ok_imp (T_lp_X1_unary_58 G R LF y2 y3 _ i_t20 (show y3 < LF from by unfold LF; omega) (show y3 ≤ (s_op t20) from by omega) (show y2 < 16387 from by omega) (show y3 < 16387 from by omega)) (fun v21 t21 z21 => ?_)
          obtain ⟨i_t21, e21, o21, b21, x21⟩ := z21
          have e21 : s_at t20 ≤ s_at t21 := e21
          have o21 : s_op t21 = (s_op t20) - y3 := o21
          exact ⟨i_t21, by omega, by omega, by omega, (fun q => by cases q)⟩
