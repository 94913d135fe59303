set_option maxHeartbeats 2000000 in
set_option maxRecDepth 100000 in
theorem v_law_838 {n L : Nat} {xs : Nat → Int32} {J : Nat → List qV → List qV → qW → Prop} {i : Int} {γ : qG} {w : qW} (hi : 0 ≤ i ∧ i + 6 ≤ L ∧ L ≤ 3072) (hR : REL2 γ) (hW : PN γ n w) (hk : ∀ (j : Int) (γ' : qG) (w' : qW), j = i + 6 → PN γ' n w' → REL2 γ' → J 18 [q2 900, q2 0, q2 85, q1 j] [] w') : b_law_838 n L xs J [(0, q2 900), (1, q2 0), (2, q2 85), (3, q1 i)] [] w := by
  intro z842 h842
  replace h842 := e_add h842 (by omega)
  apply And.intro
  · exact ⟨rfl, by omega, by omega⟩
  intro z843 h843
  have q843 : z843 = (xs (i + 1).toNat).toInt := by rw [h843, show z842 = i + 1 by omega]
  intro z847 h847
  replace h847 := e_add h847 (by omega)
  apply And.intro
  · exact ⟨rfl, by omega, by omega⟩
  intro z848 h848
  have q848 : z848 = (xs (i + 2).toNat).toInt := by rw [h848, show z847 = i + 2 by omega]
  intro z852 h852
  replace h852 := e_add h852 (by omega)
  apply And.intro
  · exact ⟨rfl, by omega, by omega⟩
  intro z853 h853
  have q853 : z853 = (xs (i + 3).toNat).toInt := by rw [h853, show z852 = i + 3 by omega]
  intro z857 h857
  replace h857 := e_add h857 (by omega)
  apply And.intro
  · exact ⟨rfl, by omega, by omega⟩
  intro z858 h858
  have q858 : z858 = (xs (i + 4).toNat).toInt := by rw [h858, show z857 = i + 4 by omega]
  intro z862 h862
  replace h862 := e_add h862 (by omega)
  apply And.intro
  · exact ⟨rfl, by omega, by omega⟩
  intro z863 h863
  have q863 : z863 = (xs (i + 5).toNat).toInt := by rw [h863, show z862 = i + 5 by omega]
  obtain ⟨_, e864, rfl⟩ := hW.1 0 _ rfl
  refine p_callN (a := 0) (As := [q1 z843, q1 z848, q1 z853, q1 z858, q1 z863]) (rest := []) hW rfl e864 (Nat.le_of_ble_eq_true rfl) ⟨_, _, _, _, _, rfl⟩ (fun r w hW hr => ?_)
  obtain ⟨r864, rfl⟩ := hr
  intro z872 h872
  replace h872 := e_add h872 (by omega)
  apply And.intro
  · exact ⟨rfl, by omega, by omega⟩
  intro z873 h873
  have q873 : z873 = (xs (i + 1).toNat).toInt := by rw [h873, show z872 = i + 1 by omega]
  intro z877 h877
  replace h877 := e_add h877 (by omega)
  apply And.intro
  · exact ⟨rfl, by omega, by omega⟩
  intro z878 h878
  have q878 : z878 = (xs (i + 2).toNat).toInt := by rw [h878, show z877 = i + 2 by omega]
  intro z882 h882
  replace h882 := e_add h882 (by omega)
  apply And.intro
  · exact ⟨rfl, by omega, by omega⟩
  intro z883 h883
  have q883 : z883 = (xs (i + 3).toNat).toInt := by rw [h883, show z882 = i + 3 by omega]
  intro z887 h887
  replace h887 := e_add h887 (by omega)
  apply And.intro
  · exact ⟨rfl, by omega, by omega⟩
  intro z888 h888
  have q888 : z888 = (xs (i + 4).toNat).toInt := by rw [h888, show z887 = i + 4 by omega]
  intro z892 h892
  replace h892 := e_add h892 (by omega)
  apply And.intro
  · exact ⟨rfl, by omega, by omega⟩
  intro z893 h893
  have q893 : z893 = (xs (i + 5).toNat).toInt := by rw [h893, show z892 = i + 5 by omega]
  obtain ⟨_, e894, mco_894, mre_894, mle_894, mbe_894, mso_894, mva_894, mwo_894, mwr_894, mlf_894, mlp_894, mfp_894, mfd_894, mgo_894, mbo_894, mpe_894, mye_894, mpr_894, mld_894, msi_894, mse_894, rfl⟩ := hW.1 85 _ rfl
  refine p_callN (a := 85) (As := [q1 z873, q1 z878, q1 z883, q1 z888, q1 z893]) (rest := []) hW rfl e894 (Nat.le_of_ble_eq_true rfl) ⟨_, _, _, _, _, rfl⟩ (fun r w hW hr => ?_)
  obtain ⟨r894, rfl⟩ := hr
  intro z1369 h1369
  replace h1369 := e_add h1369 (by omega)
  exact hk _ _ _ (by omega) hW hR

set_option maxHeartbeats 2000000 in
set_option maxRecDepth 100000 in
theorem v_law_901 {n L : Nat} {xs : Nat → Int32} {J : Nat → List qV → List qV → qW → Prop} {i : Int} {γ : qG} {w : qW} (hi : 0 ≤ i ∧ i + 6 ≤ L ∧ L ≤ 3072) (hR : REL2 γ) (hW : PN γ n w) (hk : ∀ (j : Int) (γ' : qG) (w' : qW), j = i + 6 → PN γ' n w' → REL2 γ' → J 18 [q2 900, q2 0, q2 85, q1 j] [] w') : b_law_901 n L xs J [(0, q2 900), (1, q2 0), (2, q2 85), (3, q1 i)] [] w := by
  intro z905 h905
  replace h905 := e_add h905 (by omega)
  apply And.intro
  · exact ⟨rfl, by omega, by omega⟩
  intro z906 h906
  have q906 : z906 = (xs (i + 1).toNat).toInt := by rw [h906, show z905 = i + 1 by omega]
  intro z910 h910
  replace h910 := e_add h910 (by omega)
  apply And.intro
  · exact ⟨rfl, by omega, by omega⟩
  intro z911 h911
  have q911 : z911 = (xs (i + 2).toNat).toInt := by rw [h911, show z910 = i + 2 by omega]
  intro z915 h915
  replace h915 := e_add h915 (by omega)
  apply And.intro
  · exact ⟨rfl, by omega, by omega⟩
  intro z916 h916
  have q916 : z916 = (xs (i + 3).toNat).toInt := by rw [h916, show z915 = i + 3 by omega]
  intro z920 h920
  replace h920 := e_add h920 (by omega)
  apply And.intro
  · exact ⟨rfl, by omega, by omega⟩
  intro z921 h921
  have q921 : z921 = (xs (i + 4).toNat).toInt := by rw [h921, show z920 = i + 4 by omega]
  obtain ⟨_, e922, rfl⟩ := hW.1 0 _ rfl
  refine p_callN (a := 0) (As := [q1 z906, q1 z911, q1 z916, q1 z921]) (rest := []) hW rfl e922 (Nat.le_of_ble_eq_true rfl) ⟨_, _, _, _, rfl⟩ (fun r w hW hr => ?_)
  obtain ⟨r922, rfl⟩ := hr
  intro z930 h930
  replace h930 := e_add h930 (by omega)
  apply And.intro
  · exact ⟨rfl, by omega, by omega⟩
  intro z931 h931
  have q931 : z931 = (xs (i + 1).toNat).toInt := by rw [h931, show z930 = i + 1 by omega]
  intro z935 h935
  replace h935 := e_add h935 (by omega)
  apply And.intro
  · exact ⟨rfl, by omega, by omega⟩
  intro z936 h936
  have q936 : z936 = (xs (i + 2).toNat).toInt := by rw [h936, show z935 = i + 2 by omega]
  intro z940 h940
  replace h940 := e_add h940 (by omega)
  apply And.intro
  · exact ⟨rfl, by omega, by omega⟩
  intro z941 h941
  have q941 : z941 = (xs (i + 3).toNat).toInt := by rw [h941, show z940 = i + 3 by omega]
  intro z945 h945
  replace h945 := e_add h945 (by omega)
  apply And.intro
  · exact ⟨rfl, by omega, by omega⟩
  intro z946 h946
  have q946 : z946 = (xs (i + 4).toNat).toInt := by rw [h946, show z945 = i + 4 by omega]
  obtain ⟨_, e947, mco_947, mre_947, mle_947, mbe_947, mso_947, mva_947, mwo_947, mwr_947, mlf_947, mlp_947, mfp_947, mfd_947, mgo_947, mbo_947, mpe_947, mye_947, mpr_947, mld_947, msi_947, mse_947, rfl⟩ := hW.1 85 _ rfl
  refine p_callN (a := 85) (As := [q1 z931, q1 z936, q1 z941, q1 z946]) (rest := []) hW rfl e947 (Nat.le_of_ble_eq_true rfl) ⟨_, _, _, _, rfl⟩ (fun r w hW hr => ?_)
  obtain ⟨r947, rfl⟩ := hr
  intro z1369 h1369
  replace h1369 := e_add h1369 (by omega)
  exact hk _ _ _ (by omega) hW hR

set_option maxHeartbeats 2000000 in
set_option maxRecDepth 100000 in
theorem v_law_954 {n L : Nat} {xs : Nat → Int32} {J : Nat → List qV → List qV → qW → Prop} {i : Int} {γ : qG} {w : qW} (hi : 0 ≤ i ∧ i + 6 ≤ L ∧ L ≤ 3072) (hR : REL2 γ) (hW : PN γ n w) (hk : ∀ (j : Int) (γ' : qG) (w' : qW), j = i + 6 → PN γ' n w' → REL2 γ' → J 18 [q2 900, q2 0, q2 85, q1 j] [] w') : b_law_954 n L xs J [(0, q2 900), (1, q2 0), (2, q2 85), (3, q1 i)] [] w := by
  intro z958 h958
  replace h958 := e_add h958 (by omega)
  apply And.intro
  · exact ⟨rfl, by omega, by omega⟩
  intro z959 h959
  have q959 : z959 = (xs (i + 1).toNat).toInt := by rw [h959, show z958 = i + 1 by omega]
  intro z963 h963
  replace h963 := e_add h963 (by omega)
  apply And.intro
  · exact ⟨rfl, by omega, by omega⟩
  intro z964 h964
  have q964 : z964 = (xs (i + 2).toNat).toInt := by rw [h964, show z963 = i + 2 by omega]
  intro z968 h968
  replace h968 := e_add h968 (by omega)
  apply And.intro
  · exact ⟨rfl, by omega, by omega⟩
  intro z969 h969
  have q969 : z969 = (xs (i + 3).toNat).toInt := by rw [h969, show z968 = i + 3 by omega]
  intro z973 h973
  replace h973 := e_add h973 (by omega)
  apply And.intro
  · exact ⟨rfl, by omega, by omega⟩
  intro z974 h974
  have q974 : z974 = (xs (i + 4).toNat).toInt := by rw [h974, show z973 = i + 4 by omega]
  obtain ⟨_, e975, rfl⟩ := hW.1 0 _ rfl
  refine p_callN (a := 0) (As := [q1 z959, q1 z964, q1 z969, q1 z974]) (rest := []) hW rfl e975 (Nat.le_of_ble_eq_true rfl) ⟨_, _, _, _, rfl⟩ (fun r w hW hr => ?_)
  obtain ⟨r975, rfl⟩ := hr
  intro z983 h983
  replace h983 := e_add h983 (by omega)
  apply And.intro
  · exact ⟨rfl, by omega, by omega⟩
  intro z984 h984
  have q984 : z984 = (xs (i + 1).toNat).toInt := by rw [h984, show z983 = i + 1 by omega]
  intro z988 h988
  replace h988 := e_add h988 (by omega)
  apply And.intro
  · exact ⟨rfl, by omega, by omega⟩
  intro z989 h989
  have q989 : z989 = (xs (i + 2).toNat).toInt := by rw [h989, show z988 = i + 2 by omega]
  intro z993 h993
  replace h993 := e_add h993 (by omega)
  apply And.intro
  · exact ⟨rfl, by omega, by omega⟩
  intro z994 h994
  have q994 : z994 = (xs (i + 3).toNat).toInt := by rw [h994, show z993 = i + 3 by omega]
  intro z998 h998
  replace h998 := e_add h998 (by omega)
  apply And.intro
  · exact ⟨rfl, by omega, by omega⟩
  intro z999 h999
  have q999 : z999 = (xs (i + 4).toNat).toInt := by rw [h999, show z998 = i + 4 by omega]
  obtain ⟨_, e1000, mco_1000, mre_1000, mle_1000, mbe_1000, mso_1000, mva_1000, mwo_1000, mwr_1000, mlf_1000, mlp_1000, mfp_1000, mfd_1000, mgo_1000, mbo_1000, mpe_1000, mye_1000, mpr_1000, mld_1000, msi_1000, mse_1000, rfl⟩ := hW.1 85 _ rfl
  refine p_callN (a := 85) (As := [q1 z984, q1 z989, q1 z994, q1 z999]) (rest := []) hW rfl e1000 (Nat.le_of_ble_eq_true rfl) ⟨_, _, _, _, rfl⟩ (fun r w hW hr => ?_)
  obtain ⟨r1000, rfl⟩ := hr
  intro z1369 h1369
  replace h1369 := e_add h1369 (by omega)
  exact hk _ _ _ (by omega) hW hR

set_option maxHeartbeats 2000000 in
set_option maxRecDepth 100000 in
theorem v_law_1007 {n L : Nat} {xs : Nat → Int32} {J : Nat → List qV → List qV → qW → Prop} {i : Int} {γ : qG} {w : qW} (hi : 0 ≤ i ∧ i + 6 ≤ L ∧ L ≤ 3072) (hR : REL2 γ) (hW : PN γ n w) (hk : ∀ (j : Int) (γ' : qG) (w' : qW), j = i + 6 → PN γ' n w' → REL2 γ' → J 18 [q2 900, q2 0, q2 85, q1 j] [] w') : b_law_1007 n L xs J [(0, q2 900), (1, q2 0), (2, q2 85), (3, q1 i)] [] w := by
  intro z1011 h1011
  replace h1011 := e_add h1011 (by omega)
  apply And.intro
  · exact ⟨rfl, by omega, by omega⟩
  intro z1012 h1012
  have q1012 : z1012 = (xs (i + 1).toNat).toInt := by rw [h1012, show z1011 = i + 1 by omega]
  intro z1016 h1016
  replace h1016 := e_add h1016 (by omega)
  apply And.intro
  · exact ⟨rfl, by omega, by omega⟩
  intro z1017 h1017
  have q1017 : z1017 = (xs (i + 2).toNat).toInt := by rw [h1017, show z1016 = i + 2 by omega]
  intro z1021 h1021
  replace h1021 := e_add h1021 (by omega)
  apply And.intro
  · exact ⟨rfl, by omega, by omega⟩
  intro z1022 h1022
  have q1022 : z1022 = (xs (i + 3).toNat).toInt := by rw [h1022, show z1021 = i + 3 by omega]
  obtain ⟨_, e1023, rfl⟩ := hW.1 0 _ rfl
  refine p_callN (a := 0) (As := [q1 z1012, q1 z1017, q1 z1022]) (rest := []) hW rfl e1023 (Nat.le_of_ble_eq_true rfl) ⟨_, _, _, rfl⟩ (fun r w hW hr => ?_)
  obtain ⟨r1023, rfl⟩ := hr
  intro z1031 h1031
  replace h1031 := e_add h1031 (by omega)
  apply And.intro
  · exact ⟨rfl, by omega, by omega⟩
  intro z1032 h1032
  have q1032 : z1032 = (xs (i + 1).toNat).toInt := by rw [h1032, show z1031 = i + 1 by omega]
  intro z1036 h1036
  replace h1036 := e_add h1036 (by omega)
  apply And.intro
  · exact ⟨rfl, by omega, by omega⟩
  intro z1037 h1037
  have q1037 : z1037 = (xs (i + 2).toNat).toInt := by rw [h1037, show z1036 = i + 2 by omega]
  intro z1041 h1041
  replace h1041 := e_add h1041 (by omega)
  apply And.intro
  · exact ⟨rfl, by omega, by omega⟩
  intro z1042 h1042
  have q1042 : z1042 = (xs (i + 3).toNat).toInt := by rw [h1042, show z1041 = i + 3 by omega]
  obtain ⟨_, e1043, mco_1043, mre_1043, mle_1043, mbe_1043, mso_1043, mva_1043, mwo_1043, mwr_1043, mlf_1043, mlp_1043, mfp_1043, mfd_1043, mgo_1043, mbo_1043, mpe_1043, mye_1043, mpr_1043, mld_1043, msi_1043, mse_1043, rfl⟩ := hW.1 85 _ rfl
  refine p_callN (a := 85) (As := [q1 z1032, q1 z1037, q1 z1042]) (rest := []) hW rfl e1043 (Nat.le_of_ble_eq_true rfl) ⟨_, _, _, rfl⟩ (fun r w hW hr => ?_)
  obtain ⟨r1043, rfl⟩ := hr
  intro z1369 h1369
  replace h1369 := e_add h1369 (by omega)
  exact hk _ _ _ (by omega) hW hR

set_option maxHeartbeats 2000000 in
set_option maxRecDepth 100000 in
theorem v_law_1050 {n L : Nat} {xs : Nat → Int32} {J : Nat → List qV → List qV → qW → Prop} {i : Int} {γ : qG} {w : qW} (hi : 0 ≤ i ∧ i + 6 ≤ L ∧ L ≤ 3072) (hR : REL2 γ) (hW : PN γ n w) (hk : ∀ (j : Int) (γ' : qG) (w' : qW), j = i + 6 → PN γ' n w' → REL2 γ' → J 18 [q2 900, q2 0, q2 85, q1 j] [] w') : b_law_1050 n L xs J [(0, q2 900), (1, q2 0), (2, q2 85), (3, q1 i)] [] w := by
  intro z1054 h1054
  replace h1054 := e_add h1054 (by omega)
  apply And.intro
  · exact ⟨rfl, by omega, by omega⟩
  intro z1055 h1055
  have q1055 : z1055 = (xs (i + 1).toNat).toInt := by rw [h1055, show z1054 = i + 1 by omega]
  intro z1059 h1059
  replace h1059 := e_add h1059 (by omega)
  apply And.intro
  · exact ⟨rfl, by omega, by omega⟩
  intro z1060 h1060
  have q1060 : z1060 = (xs (i + 2).toNat).toInt := by rw [h1060, show z1059 = i + 2 by omega]
  obtain ⟨_, e1061, rfl⟩ := hW.1 0 _ rfl
  refine p_callN (a := 0) (As := [q1 z1055, q1 z1060]) (rest := []) hW rfl e1061 (Nat.le_of_ble_eq_true rfl) ⟨_, _, rfl⟩ (fun r w hW hr => ?_)
  obtain ⟨r1061, rfl⟩ := hr
  intro z1069 h1069
  replace h1069 := e_add h1069 (by omega)
  apply And.intro
  · exact ⟨rfl, by omega, by omega⟩
  intro z1070 h1070
  have q1070 : z1070 = (xs (i + 1).toNat).toInt := by rw [h1070, show z1069 = i + 1 by omega]
  intro z1074 h1074
  replace h1074 := e_add h1074 (by omega)
  apply And.intro
  · exact ⟨rfl, by omega, by omega⟩
  intro z1075 h1075
  have q1075 : z1075 = (xs (i + 2).toNat).toInt := by rw [h1075, show z1074 = i + 2 by omega]
  obtain ⟨_, e1076, mco_1076, mre_1076, mle_1076, mbe_1076, mso_1076, mva_1076, mwo_1076, mwr_1076, mlf_1076, mlp_1076, mfp_1076, mfd_1076, mgo_1076, mbo_1076, mpe_1076, mye_1076, mpr_1076, mld_1076, msi_1076, mse_1076, rfl⟩ := hW.1 85 _ rfl
  refine p_callN (a := 85) (As := [q1 z1070, q1 z1075]) (rest := []) hW rfl e1076 (Nat.le_of_ble_eq_true rfl) ⟨_, _, rfl⟩ (fun r w hW hr => ?_)
  obtain ⟨r1076, rfl⟩ := hr
  intro z1369 h1369
  replace h1369 := e_add h1369 (by omega)
  exact hk _ _ _ (by omega) hW hR

set_option maxHeartbeats 2000000 in
set_option maxRecDepth 100000 in
theorem v_law_1083 {n L : Nat} {xs : Nat → Int32} {J : Nat → List qV → List qV → qW → Prop} {i : Int} {γ : qG} {w : qW} (hi : 0 ≤ i ∧ i + 6 ≤ L ∧ L ≤ 3072) (hR : REL2 γ) (hW : PN γ n w) (hk : ∀ (j : Int) (γ' : qG) (w' : qW), j = i + 6 → PN γ' n w' → REL2 γ' → J 18 [q2 900, q2 0, q2 85, q1 j] [] w') : b_law_1083 n L xs J [(0, q2 900), (1, q2 0), (2, q2 85), (3, q1 i)] [] w := by
  intro z1087 h1087
  replace h1087 := e_add h1087 (by omega)
  apply And.intro
  · exact ⟨rfl, by omega, by omega⟩
  intro z1088 h1088
  have q1088 : z1088 = (xs (i + 1).toNat).toInt := by rw [h1088, show z1087 = i + 1 by omega]
  intro z1092 h1092
  replace h1092 := e_add h1092 (by omega)
  apply And.intro
  · exact ⟨rfl, by omega, by omega⟩
  intro z1093 h1093
  have q1093 : z1093 = (xs (i + 2).toNat).toInt := by rw [h1093, show z1092 = i + 2 by omega]
  obtain ⟨_, e1094, rfl⟩ := hW.1 0 _ rfl
  refine p_callN (a := 0) (As := [q1 z1088, q1 z1093]) (rest := []) hW rfl e1094 (Nat.le_of_ble_eq_true rfl) ⟨_, _, rfl⟩ (fun r w hW hr => ?_)
  obtain ⟨r1094, rfl⟩ := hr
  intro z1102 h1102
  replace h1102 := e_add h1102 (by omega)
  apply And.intro
  · exact ⟨rfl, by omega, by omega⟩
  intro z1103 h1103
  have q1103 : z1103 = (xs (i + 1).toNat).toInt := by rw [h1103, show z1102 = i + 1 by omega]
  intro z1107 h1107
  replace h1107 := e_add h1107 (by omega)
  apply And.intro
  · exact ⟨rfl, by omega, by omega⟩
  intro z1108 h1108
  have q1108 : z1108 = (xs (i + 2).toNat).toInt := by rw [h1108, show z1107 = i + 2 by omega]
  obtain ⟨_, e1109, mco_1109, mre_1109, mle_1109, mbe_1109, mso_1109, mva_1109, mwo_1109, mwr_1109, mlf_1109, mlp_1109, mfp_1109, mfd_1109, mgo_1109, mbo_1109, mpe_1109, mye_1109, mpr_1109, mld_1109, msi_1109, mse_1109, rfl⟩ := hW.1 85 _ rfl
  refine p_callN (a := 85) (As := [q1 z1103, q1 z1108]) (rest := []) hW rfl e1109 (Nat.le_of_ble_eq_true rfl) ⟨_, _, rfl⟩ (fun r w hW hr => ?_)
  obtain ⟨r1109, rfl⟩ := hr
  intro z1369 h1369
  replace h1369 := e_add h1369 (by omega)
  exact hk _ _ _ (by omega) hW hR

set_option maxHeartbeats 2000000 in
set_option maxRecDepth 100000 in
theorem v_law_1116 {n L : Nat} {xs : Nat → Int32} {J : Nat → List qV → List qV → qW → Prop} {i : Int} {γ : qG} {w : qW} (hi : 0 ≤ i ∧ i + 6 ≤ L ∧ L ≤ 3072) (hR : REL2 γ) (hW : PN γ n w) (hk : ∀ (j : Int) (γ' : qG) (w' : qW), j = i + 6 → PN γ' n w' → REL2 γ' → J 18 [q2 900, q2 0, q2 85, q1 j] [] w') : b_law_1116 n L xs J [(0, q2 900), (1, q2 0), (2, q2 85), (3, q1 i)] [] w := by
  intro z1120 h1120
  replace h1120 := e_add h1120 (by omega)
  apply And.intro
  · exact ⟨rfl, by omega, by omega⟩
  intro z1121 h1121
  have q1121 : z1121 = (xs (i + 1).toNat).toInt := by rw [h1121, show z1120 = i + 1 by omega]
  intro z1125 h1125
  replace h1125 := e_add h1125 (by omega)
  apply And.intro
  · exact ⟨rfl, by omega, by omega⟩
  intro z1126 h1126
  have q1126 : z1126 = (xs (i + 2).toNat).toInt := by rw [h1126, show z1125 = i + 2 by omega]
  apply And.intro
  · intro h1127
    obtain ⟨_, e1135, rfl⟩ := hW.1 0 _ rfl
    refine p_callM (a := 0) (As := [q1 z1121, q1 0]) (rest := []) hW rfl e1135 (Nat.le_of_ble_eq_true rfl) ⟨_, _, rfl⟩ (fun r γ1135 w hW hr1135 => ?_)
    obtain ⟨r1135, rfl⟩ := rlHtC_z hr1135
    intro z1142 h1142
    replace h1142 := e_add h1142 (by omega)
    apply And.intro
    · exact ⟨rfl, by omega, by omega⟩
    intro z1143 h1143
    have q1143 : z1143 = (xs (i + 1).toNat).toInt := by rw [h1143, show z1142 = i + 1 by omega]
    intro z1147 h1147
    replace h1147 := e_add h1147 (by omega)
    apply And.intro
    · exact ⟨rfl, by omega, by omega⟩
    intro z1148 h1148
    have q1148 : z1148 = (xs (i + 2).toNat).toInt := by rw [h1148, show z1147 = i + 2 by omega]
    apply And.intro
    · intro h1149
      obtain ⟨_, e1157, mco_1157, mre_1157, mle_1157, mbe_1157, mso_1157, mva_1157, mwo_1157, mwr_1157, mlf_1157, mlp_1157, mfp_1157, mfd_1157, mgo_1157, mbo_1157, mpe_1157, mye_1157, mpr_1157, mld_1157, msi_1157, mse_1157, rfl⟩ := hW.1 85 _ rfl
      refine p_callM (a := 85) (As := [q1 z1143, q1 0]) (rest := [q1 r1135]) hW rfl e1157 (Nat.le_of_ble_eq_true rfl) ⟨_, _, rfl⟩ (fun r γ1157 w hW hr1157 => ?_)
      obtain ⟨r1157, rfl⟩ := rlHtM_z hr1157
      have R9 := RL2Ht (q1121.trans q1143.symm) (by first | rfl | omega) hR hr1135 hr1157
      apply And.intro
      · intro h1160
        intro z1369 h1369
        replace h1369 := e_add h1369 (by omega)
        exact hk _ _ _ (by omega) hW R9.1
      · intro h1160
        exact absurd R9.2 h1160
    · intro h1149
      obtain ⟨_, e1157, mco_1157, mre_1157, mle_1157, mbe_1157, mso_1157, mva_1157, mwo_1157, mwr_1157, mlf_1157, mlp_1157, mfp_1157, mfd_1157, mgo_1157, mbo_1157, mpe_1157, mye_1157, mpr_1157, mld_1157, msi_1157, mse_1157, rfl⟩ := hW.1 85 _ rfl
      refine p_callM (a := 85) (As := [q1 z1143, q1 1]) (rest := [q1 r1135]) hW rfl e1157 (Nat.le_of_ble_eq_true rfl) ⟨_, _, rfl⟩ (fun r γ1157 w hW hr1157 => ?_)
      obtain ⟨r1157, rfl⟩ := rlHtM_z hr1157
      have R9 := RL2Ht (q1121.trans q1143.symm) (by first | rfl | omega) hR hr1135 hr1157
      apply And.intro
      · intro h1160
        intro z1369 h1369
        replace h1369 := e_add h1369 (by omega)
        exact hk _ _ _ (by omega) hW R9.1
      · intro h1160
        exact absurd R9.2 h1160
  · intro h1127
    obtain ⟨_, e1135, rfl⟩ := hW.1 0 _ rfl
    refine p_callM (a := 0) (As := [q1 z1121, q1 1]) (rest := []) hW rfl e1135 (Nat.le_of_ble_eq_true rfl) ⟨_, _, rfl⟩ (fun r γ1135 w hW hr1135 => ?_)
    obtain ⟨r1135, rfl⟩ := rlHtC_z hr1135
    intro z1142 h1142
    replace h1142 := e_add h1142 (by omega)
    apply And.intro
    · exact ⟨rfl, by omega, by omega⟩
    intro z1143 h1143
    have q1143 : z1143 = (xs (i + 1).toNat).toInt := by rw [h1143, show z1142 = i + 1 by omega]
    intro z1147 h1147
    replace h1147 := e_add h1147 (by omega)
    apply And.intro
    · exact ⟨rfl, by omega, by omega⟩
    intro z1148 h1148
    have q1148 : z1148 = (xs (i + 2).toNat).toInt := by rw [h1148, show z1147 = i + 2 by omega]
    apply And.intro
    · intro h1149
      obtain ⟨_, e1157, mco_1157, mre_1157, mle_1157, mbe_1157, mso_1157, mva_1157, mwo_1157, mwr_1157, mlf_1157, mlp_1157, mfp_1157, mfd_1157, mgo_1157, mbo_1157, mpe_1157, mye_1157, mpr_1157, mld_1157, msi_1157, mse_1157, rfl⟩ := hW.1 85 _ rfl
      refine p_callM (a := 85) (As := [q1 z1143, q1 0]) (rest := [q1 r1135]) hW rfl e1157 (Nat.le_of_ble_eq_true rfl) ⟨_, _, rfl⟩ (fun r γ1157 w hW hr1157 => ?_)
      obtain ⟨r1157, rfl⟩ := rlHtM_z hr1157
      have R9 := RL2Ht (q1121.trans q1143.symm) (by first | rfl | omega) hR hr1135 hr1157
      apply And.intro
      · intro h1160
        intro z1369 h1369
        replace h1369 := e_add h1369 (by omega)
        exact hk _ _ _ (by omega) hW R9.1
      · intro h1160
        exact absurd R9.2 h1160
    · intro h1149
      obtain ⟨_, e1157, mco_1157, mre_1157, mle_1157, mbe_1157, mso_1157, mva_1157, mwo_1157, mwr_1157, mlf_1157, mlp_1157, mfp_1157, mfd_1157, mgo_1157, mbo_1157, mpe_1157, mye_1157, mpr_1157, mld_1157, msi_1157, mse_1157, rfl⟩ := hW.1 85 _ rfl
      refine p_callM (a := 85) (As := [q1 z1143, q1 1]) (rest := [q1 r1135]) hW rfl e1157 (Nat.le_of_ble_eq_true rfl) ⟨_, _, rfl⟩ (fun r γ1157 w hW hr1157 => ?_)
      obtain ⟨r1157, rfl⟩ := rlHtM_z hr1157
      have R9 := RL2Ht (q1121.trans q1143.symm) (by first | rfl | omega) hR hr1135 hr1157
      apply And.intro
      · intro h1160
        intro z1369 h1369
        replace h1369 := e_add h1369 (by omega)
        exact hk _ _ _ (by omega) hW R9.1
      · intro h1160
        exact absurd R9.2 h1160

set_option maxHeartbeats 2000000 in
set_option maxRecDepth 100000 in
theorem v_law_1165 {n L : Nat} {xs : Nat → Int32} {J : Nat → List qV → List qV → qW → Prop} {i : Int} {γ : qG} {w : qW} (hi : 0 ≤ i ∧ i + 6 ≤ L ∧ L ≤ 3072) (hR : REL2 γ) (hW : PN γ n w) (hk : ∀ (j : Int) (γ' : qG) (w' : qW), j = i + 6 → PN γ' n w' → REL2 γ' → J 18 [q2 900, q2 0, q2 85, q1 j] [] w') : b_law_1165 n L xs J [(0, q2 900), (1, q2 0), (2, q2 85), (3, q1 i)] [] w := by
  intro z1169 h1169
  replace h1169 := e_add h1169 (by omega)
  apply And.intro
  · exact ⟨rfl, by omega, by omega⟩
  intro z1170 h1170
  have q1170 : z1170 = (xs (i + 1).toNat).toInt := by rw [h1170, show z1169 = i + 1 by omega]
  intro z1174 h1174
  replace h1174 := e_add h1174 (by omega)
  apply And.intro
  · exact ⟨rfl, by omega, by omega⟩
  intro z1175 h1175
  have q1175 : z1175 = (xs (i + 2).toNat).toInt := by rw [h1175, show z1174 = i + 2 by omega]
  apply And.intro
  · intro h1176
    obtain ⟨_, e1184, rfl⟩ := hW.1 0 _ rfl
    refine p_callN (a := 0) (As := [q1 z1170, q1 0]) (rest := []) hW rfl e1184 (Nat.le_of_ble_eq_true rfl) ⟨_, _, rfl⟩ (fun r w hW hr => ?_)
    obtain ⟨r1184, rfl⟩ := hr
    intro z1192 h1192
    replace h1192 := e_add h1192 (by omega)
    apply And.intro
    · exact ⟨rfl, by omega, by omega⟩
    intro z1193 h1193
    have q1193 : z1193 = (xs (i + 1).toNat).toInt := by rw [h1193, show z1192 = i + 1 by omega]
    intro z1197 h1197
    replace h1197 := e_add h1197 (by omega)
    apply And.intro
    · exact ⟨rfl, by omega, by omega⟩
    intro z1198 h1198
    have q1198 : z1198 = (xs (i + 2).toNat).toInt := by rw [h1198, show z1197 = i + 2 by omega]
    apply And.intro
    · intro h1199
      obtain ⟨_, e1207, mco_1207, mre_1207, mle_1207, mbe_1207, mso_1207, mva_1207, mwo_1207, mwr_1207, mlf_1207, mlp_1207, mfp_1207, mfd_1207, mgo_1207, mbo_1207, mpe_1207, mye_1207, mpr_1207, mld_1207, msi_1207, mse_1207, rfl⟩ := hW.1 85 _ rfl
      refine p_callN (a := 85) (As := [q1 z1193, q1 0]) (rest := []) hW rfl e1207 (Nat.le_of_ble_eq_true rfl) ⟨_, _, rfl⟩ (fun r w hW hr => ?_)
      obtain ⟨r1207, rfl⟩ := hr
      intro z1369 h1369
      replace h1369 := e_add h1369 (by omega)
      exact hk _ _ _ (by omega) hW hR
    · intro h1199
      obtain ⟨_, e1207, mco_1207, mre_1207, mle_1207, mbe_1207, mso_1207, mva_1207, mwo_1207, mwr_1207, mlf_1207, mlp_1207, mfp_1207, mfd_1207, mgo_1207, mbo_1207, mpe_1207, mye_1207, mpr_1207, mld_1207, msi_1207, mse_1207, rfl⟩ := hW.1 85 _ rfl
      refine p_callN (a := 85) (As := [q1 z1193, q1 1]) (rest := []) hW rfl e1207 (Nat.le_of_ble_eq_true rfl) ⟨_, _, rfl⟩ (fun r w hW hr => ?_)
      obtain ⟨r1207, rfl⟩ := hr
      intro z1369 h1369
      replace h1369 := e_add h1369 (by omega)
      exact hk _ _ _ (by omega) hW hR
  · intro h1176
    obtain ⟨_, e1184, rfl⟩ := hW.1 0 _ rfl
    refine p_callN (a := 0) (As := [q1 z1170, q1 1]) (rest := []) hW rfl e1184 (Nat.le_of_ble_eq_true rfl) ⟨_, _, rfl⟩ (fun r w hW hr => ?_)
    obtain ⟨r1184, rfl⟩ := hr
    intro z1192 h1192
    replace h1192 := e_add h1192 (by omega)
    apply And.intro
    · exact ⟨rfl, by omega, by omega⟩
    intro z1193 h1193
    have q1193 : z1193 = (xs (i + 1).toNat).toInt := by rw [h1193, show z1192 = i + 1 by omega]
    intro z1197 h1197
    replace h1197 := e_add h1197 (by omega)
    apply And.intro
    · exact ⟨rfl, by omega, by omega⟩
    intro z1198 h1198
    have q1198 : z1198 = (xs (i + 2).toNat).toInt := by rw [h1198, show z1197 = i + 2 by omega]
    apply And.intro
    · intro h1199
      obtain ⟨_, e1207, mco_1207, mre_1207, mle_1207, mbe_1207, mso_1207, mva_1207, mwo_1207, mwr_1207, mlf_1207, mlp_1207, mfp_1207, mfd_1207, mgo_1207, mbo_1207, mpe_1207, mye_1207, mpr_1207, mld_1207, msi_1207, mse_1207, rfl⟩ := hW.1 85 _ rfl
      refine p_callN (a := 85) (As := [q1 z1193, q1 0]) (rest := []) hW rfl e1207 (Nat.le_of_ble_eq_true rfl) ⟨_, _, rfl⟩ (fun r w hW hr => ?_)
      obtain ⟨r1207, rfl⟩ := hr
      intro z1369 h1369
      replace h1369 := e_add h1369 (by omega)
      exact hk _ _ _ (by omega) hW hR
    · intro h1199
      obtain ⟨_, e1207, mco_1207, mre_1207, mle_1207, mbe_1207, mso_1207, mva_1207, mwo_1207, mwr_1207, mlf_1207, mlp_1207, mfp_1207, mfd_1207, mgo_1207, mbo_1207, mpe_1207, mye_1207, mpr_1207, mld_1207, msi_1207, mse_1207, rfl⟩ := hW.1 85 _ rfl
      refine p_callN (a := 85) (As := [q1 z1193, q1 1]) (rest := []) hW rfl e1207 (Nat.le_of_ble_eq_true rfl) ⟨_, _, rfl⟩ (fun r w hW hr => ?_)
      obtain ⟨r1207, rfl⟩ := hr
      intro z1369 h1369
      replace h1369 := e_add h1369 (by omega)
      exact hk _ _ _ (by omega) hW hR
