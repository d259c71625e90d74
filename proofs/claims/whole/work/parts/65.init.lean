/-! the reference: its making (written by program: wip/whole/gen/model7.py) -/
theorem c_X6_init {E : zE} (hst : E.1.stackTraces = false) {H : Heap} {r : zH} {q : Nat} (hO : zO E H r 100000 q 6 [.int (iI 0), .null, .int (iI 0), .int (iI 0), .int (iI 0), .int (iI 0), .null, .null, .null, .null, .null, .null, .null, .int (iI 0), .int (iI 0), .null, .null]) : zC E yX6_init cX6_init 1 none 2 60 [.ref q] H 10 86000 (zRv (fun H1 => ∃ (r1 : zH) (Q : Nat → Nat), zFr H r H1 r1 (fun s => 100000 ≤ s) ∧ zMs E H1 r1 q Q 0 (fun _ => 0) sClean 0 0 (fun _ _ => 0) (fun _ => 0) (fun _ => 0) 0)) zN := by
  refine zC.of (by decide) (Nat.le_of_ble_eq_true rfl) hst ?_
  intro x O hE hpo hpx
  subst hE
  change zG x H 0 0 0 [(0, .ref q)] []
  refine z_aload_n 0 O dX6_init_0 rfl ?_
  refine z_objInit (List.mem_of_getElem? (i := 917) (by decide +kernel)) O dX6_init_1 (by decide) (Nat.le_of_ble_eq_true rfl) ?_
  refine z_aload_n 0 O dX6_init_4 rfl ?_
  refine z_bipush 120 O dX6_init_5 (by decide +kernel) ?_
  refine z_newi (n := 120) O dX6_init_7 ⟨by omega, by omega⟩ (by omega) (by omega) (by omega) (by omega) (by omega) (fun H1 hA2 hN3 => ?_)
  obtain ⟨r5, er5⟩ : ∃ z, z = zTag r H.size 100001 := ⟨_, rfl⟩
  have hf6 : zFr H r H1 r5 (fun _ => False) := by rw [er5]; exact hN3.fr r 100001 _
  obtain ⟨q4, eq4⟩ : ∃ z, z = H.size := ⟨_, rfl⟩
  have q4t : r5.1 q4 = 100001 := by rw [er5, eq4]; exact zTag_1
  rw [← eq4]
  have hO7 := hO.fr hf6 (fun h => h)
  have ha8 : zA (zEn x) H1 r5 100001 q4 120 (fun _ => 0) := ⟨by rw [eq4]; exact hA2, q4t⟩
  refine z_putf kP_X6_7 O (fun _ => rfl) dX6_init_9 hO7.1 rfl rfl (Nat.le_of_ble_eq_true rfl) (fun H9 hO10 hC11 => ?_)
  have hf12 := hO7.ch hC11
  have ho13 : zO (zEn x) H9 r5 100000 q 6 [.int (iI 0), .ref q4, .int (iI 0), .int (iI 0), .int (iI 0), .int (iI 0), .null, .null, .null, .null, .null, .null, .null, .int (iI 0), .int (iI 0), .null, .null] := ⟨hO10, hO7.2⟩
  have ha14 := ha8.fr hf12 (zT1 (by omega))
  refine z_aload_n 0 O dX6_init_12 rfl ?_
  refine z_sipush 4086 O dX6_init_13 (by decide +kernel) ?_
  refine z_newi (n := 4086) O dX6_init_16 ⟨by omega, by omega⟩ (by omega) (by omega) (by omega) (by omega) (by omega) (fun H15 hA16 hN17 => ?_)
  obtain ⟨r19, er19⟩ : ∃ z, z = zTag r5 H9.size 100002 := ⟨_, rfl⟩
  have hf20 : zFr H9 r5 H15 r19 (fun _ => False) := by rw [er19]; exact hN17.fr r5 100002 _
  obtain ⟨q18, eq18⟩ : ∃ z, z = H9.size := ⟨_, rfl⟩
  have q18t : r19.1 q18 = 100002 := by rw [er19, eq18]; exact zTag_1
  rw [← eq18]
  have ho21 := ho13.fr hf20 (fun h => h)
  have ha22 := ha14.fr hf20 (fun h => h)
  have ha23 : zA (zEn x) H15 r19 100002 q18 4086 (fun _ => 0) := ⟨by rw [eq18]; exact hA16, q18t⟩
  refine z_putf kP_X6_13 O (fun _ => rfl) dX6_init_18 ho21.1 rfl rfl (Nat.le_of_ble_eq_true rfl) (fun H24 hO25 hC26 => ?_)
  have hf27 := ho21.ch hC26
  have ho28 : zO (zEn x) H24 r19 100000 q 6 [.int (iI 0), .ref q4, .int (iI 0), .int (iI 0), .int (iI 0), .int (iI 0), .ref q18, .null, .null, .null, .null, .null, .null, .int (iI 0), .int (iI 0), .null, .null] := ⟨hO25, ho21.2⟩
  have ha29 := ha22.fr hf27 (zT1 (by omega))
  have ha30 := ha23.fr hf27 (zT1 (by omega))
  refine z_aload_n 0 O dX6_init_21 rfl ?_
  refine z_sipush 4086 O dX6_init_22 (by decide +kernel) ?_
  refine z_newi (n := 4086) O dX6_init_25 ⟨by omega, by omega⟩ (by omega) (by omega) (by omega) (by omega) (by omega) (fun H31 hA32 hN33 => ?_)
  obtain ⟨r35, er35⟩ : ∃ z, z = zTag r19 H24.size 100003 := ⟨_, rfl⟩
  have hf36 : zFr H24 r19 H31 r35 (fun _ => False) := by rw [er35]; exact hN33.fr r19 100003 _
  obtain ⟨q34, eq34⟩ : ∃ z, z = H24.size := ⟨_, rfl⟩
  have q34t : r35.1 q34 = 100003 := by rw [er35, eq34]; exact zTag_1
  rw [← eq34]
  have ho37 := ho28.fr hf36 (fun h => h)
  have ha38 := ha29.fr hf36 (fun h => h)
  have ha39 := ha30.fr hf36 (fun h => h)
  have ha40 : zA (zEn x) H31 r35 100003 q34 4086 (fun _ => 0) := ⟨by rw [eq34]; exact hA32, q34t⟩
  refine z_putf kP_X6_16 O (fun _ => rfl) dX6_init_27 ho37.1 rfl rfl (Nat.le_of_ble_eq_true rfl) (fun H41 hO42 hC43 => ?_)
  have hf44 := ho37.ch hC43
  have ho45 : zO (zEn x) H41 r35 100000 q 6 [.int (iI 0), .ref q4, .int (iI 0), .int (iI 0), .int (iI 0), .int (iI 0), .ref q18, .ref q34, .null, .null, .null, .null, .null, .int (iI 0), .int (iI 0), .null, .null] := ⟨hO42, ho37.2⟩
  have ha46 := ha38.fr hf44 (zT1 (by omega))
  have ha47 := ha39.fr hf44 (zT1 (by omega))
  have ha48 := ha40.fr hf44 (zT1 (by omega))
  refine z_aload_n 0 O dX6_init_30 rfl ?_
  refine z_sipush 4086 O dX6_init_31 (by decide +kernel) ?_
  refine z_newi (n := 4086) O dX6_init_34 ⟨by omega, by omega⟩ (by omega) (by omega) (by omega) (by omega) (by omega) (fun H49 hA50 hN51 => ?_)
  obtain ⟨r53, er53⟩ : ∃ z, z = zTag r35 H41.size 100004 := ⟨_, rfl⟩
  have hf54 : zFr H41 r35 H49 r53 (fun _ => False) := by rw [er53]; exact hN51.fr r35 100004 _
  obtain ⟨q52, eq52⟩ : ∃ z, z = H41.size := ⟨_, rfl⟩
  have q52t : r53.1 q52 = 100004 := by rw [er53, eq52]; exact zTag_1
  rw [← eq52]
  have ho55 := ho45.fr hf54 (fun h => h)
  have ha56 := ha46.fr hf54 (fun h => h)
  have ha57 := ha47.fr hf54 (fun h => h)
  have ha58 := ha48.fr hf54 (fun h => h)
  have ha59 : zA (zEn x) H49 r53 100004 q52 4086 (fun _ => 0) := ⟨by rw [eq52]; exact hA50, q52t⟩
  refine z_putf kP_X6_19 O (fun _ => rfl) dX6_init_36 ho55.1 rfl rfl (Nat.le_of_ble_eq_true rfl) (fun H60 hO61 hC62 => ?_)
  have hf63 := ho55.ch hC62
  have ho64 : zO (zEn x) H60 r53 100000 q 6 [.int (iI 0), .ref q4, .int (iI 0), .int (iI 0), .int (iI 0), .int (iI 0), .ref q18, .ref q34, .ref q52, .null, .null, .null, .null, .int (iI 0), .int (iI 0), .null, .null] := ⟨hO61, ho55.2⟩
  have ha65 := ha56.fr hf63 (zT1 (by omega))
  have ha66 := ha57.fr hf63 (zT1 (by omega))
  have ha67 := ha58.fr hf63 (zT1 (by omega))
  have ha68 := ha59.fr hf63 (zT1 (by omega))
  refine z_aload_n 0 O dX6_init_39 rfl ?_
  refine z_sipush 16344 O dX6_init_40 (by decide +kernel) ?_
  refine z_newi (n := 16344) O dX6_init_43 ⟨by omega, by omega⟩ (by omega) (by omega) (by omega) (by omega) (by omega) (fun H69 hA70 hN71 => ?_)
  obtain ⟨r73, er73⟩ : ∃ z, z = zTag r53 H60.size 100005 := ⟨_, rfl⟩
  have hf74 : zFr H60 r53 H69 r73 (fun _ => False) := by rw [er73]; exact hN71.fr r53 100005 _
  obtain ⟨q72, eq72⟩ : ∃ z, z = H60.size := ⟨_, rfl⟩
  have q72t : r73.1 q72 = 100005 := by rw [er73, eq72]; exact zTag_1
  rw [← eq72]
  have ho75 := ho64.fr hf74 (fun h => h)
  have ha76 := ha65.fr hf74 (fun h => h)
  have ha77 := ha66.fr hf74 (fun h => h)
  have ha78 := ha67.fr hf74 (fun h => h)
  have ha79 := ha68.fr hf74 (fun h => h)
  have ha80 : zA (zEn x) H69 r73 100005 q72 16344 (fun _ => 0) := ⟨by rw [eq72]; exact hA70, q72t⟩
  refine z_putf kP_X6_22 O (fun _ => rfl) dX6_init_45 ho75.1 rfl rfl (Nat.le_of_ble_eq_true rfl) (fun H81 hO82 hC83 => ?_)
  have hf84 := ho75.ch hC83
  have ho85 : zO (zEn x) H81 r73 100000 q 6 [.int (iI 0), .ref q4, .int (iI 0), .int (iI 0), .int (iI 0), .int (iI 0), .ref q18, .ref q34, .ref q52, .ref q72, .null, .null, .null, .int (iI 0), .int (iI 0), .null, .null] := ⟨hO82, ho75.2⟩
  have ha86 := ha76.fr hf84 (zT1 (by omega))
  have ha87 := ha77.fr hf84 (zT1 (by omega))
  have ha88 := ha78.fr hf84 (zT1 (by omega))
  have ha89 := ha79.fr hf84 (zT1 (by omega))
  have ha90 := ha80.fr hf84 (zT1 (by omega))
  refine z_aload_n 0 O dX6_init_48 rfl ?_
  refine z_sipush 16344 O dX6_init_49 (by decide +kernel) ?_
  refine z_newi (n := 16344) O dX6_init_52 ⟨by omega, by omega⟩ (by omega) (by omega) (by omega) (by omega) (by omega) (fun H91 hA92 hN93 => ?_)
  obtain ⟨r95, er95⟩ : ∃ z, z = zTag r73 H81.size 100006 := ⟨_, rfl⟩
  have hf96 : zFr H81 r73 H91 r95 (fun _ => False) := by rw [er95]; exact hN93.fr r73 100006 _
  obtain ⟨q94, eq94⟩ : ∃ z, z = H81.size := ⟨_, rfl⟩
  have q94t : r95.1 q94 = 100006 := by rw [er95, eq94]; exact zTag_1
  rw [← eq94]
  have ho97 := ho85.fr hf96 (fun h => h)
  have ha98 := ha86.fr hf96 (fun h => h)
  have ha99 := ha87.fr hf96 (fun h => h)
  have ha100 := ha88.fr hf96 (fun h => h)
  have ha101 := ha89.fr hf96 (fun h => h)
  have ha102 := ha90.fr hf96 (fun h => h)
  have ha103 : zA (zEn x) H91 r95 100006 q94 16344 (fun _ => 0) := ⟨by rw [eq94]; exact hA92, q94t⟩
  refine z_putf kP_X6_25 O (fun _ => rfl) dX6_init_54 ho97.1 rfl rfl (Nat.le_of_ble_eq_true rfl) (fun H104 hO105 hC106 => ?_)
  have hf107 := ho97.ch hC106
  have ho108 : zO (zEn x) H104 r95 100000 q 6 [.int (iI 0), .ref q4, .int (iI 0), .int (iI 0), .int (iI 0), .int (iI 0), .ref q18, .ref q34, .ref q52, .ref q72, .ref q94, .null, .null, .int (iI 0), .int (iI 0), .null, .null] := ⟨hO105, ho97.2⟩
  have ha109 := ha98.fr hf107 (zT1 (by omega))
  have ha110 := ha99.fr hf107 (zT1 (by omega))
  have ha111 := ha100.fr hf107 (zT1 (by omega))
  have ha112 := ha101.fr hf107 (zT1 (by omega))
  have ha113 := ha102.fr hf107 (zT1 (by omega))
  have ha114 := ha103.fr hf107 (zT1 (by omega))
  refine z_aload_n 0 O dX6_init_57 rfl ?_
  refine z_sipush 16344 O dX6_init_58 (by decide +kernel) ?_
  refine z_newi (n := 16344) O dX6_init_61 ⟨by omega, by omega⟩ (by omega) (by omega) (by omega) (by omega) (by omega) (fun H115 hA116 hN117 => ?_)
  obtain ⟨r119, er119⟩ : ∃ z, z = zTag r95 H104.size 100007 := ⟨_, rfl⟩
  have hf120 : zFr H104 r95 H115 r119 (fun _ => False) := by rw [er119]; exact hN117.fr r95 100007 _
  obtain ⟨q118, eq118⟩ : ∃ z, z = H104.size := ⟨_, rfl⟩
  have q118t : r119.1 q118 = 100007 := by rw [er119, eq118]; exact zTag_1
  rw [← eq118]
  have ho121 := ho108.fr hf120 (fun h => h)
  have ha122 := ha109.fr hf120 (fun h => h)
  have ha123 := ha110.fr hf120 (fun h => h)
  have ha124 := ha111.fr hf120 (fun h => h)
  have ha125 := ha112.fr hf120 (fun h => h)
  have ha126 := ha113.fr hf120 (fun h => h)
  have ha127 := ha114.fr hf120 (fun h => h)
  have ha128 : zA (zEn x) H115 r119 100007 q118 16344 (fun _ => 0) := ⟨by rw [eq118]; exact hA116, q118t⟩
  refine z_putf kP_X6_28 O (fun _ => rfl) dX6_init_63 ho121.1 rfl rfl (Nat.le_of_ble_eq_true rfl) (fun H129 hO130 hC131 => ?_)
  have hf132 := ho121.ch hC131
  have ho133 : zO (zEn x) H129 r119 100000 q 6 [.int (iI 0), .ref q4, .int (iI 0), .int (iI 0), .int (iI 0), .int (iI 0), .ref q18, .ref q34, .ref q52, .ref q72, .ref q94, .ref q118, .null, .int (iI 0), .int (iI 0), .null, .null] := ⟨hO130, ho121.2⟩
  have ha134 := ha122.fr hf132 (zT1 (by omega))
  have ha135 := ha123.fr hf132 (zT1 (by omega))
  have ha136 := ha124.fr hf132 (zT1 (by omega))
  have ha137 := ha125.fr hf132 (zT1 (by omega))
  have ha138 := ha126.fr hf132 (zT1 (by omega))
  have ha139 := ha127.fr hf132 (zT1 (by omega))
  have ha140 := ha128.fr hf132 (zT1 (by omega))
  refine z_aload_n 0 O dX6_init_66 rfl ?_
  refine z_sipush 16344 O dX6_init_67 (by decide +kernel) ?_
  refine z_newi (n := 16344) O dX6_init_70 ⟨by omega, by omega⟩ (by omega) (by omega) (by omega) (by omega) (by omega) (fun H141 hA142 hN143 => ?_)
  obtain ⟨r145, er145⟩ : ∃ z, z = zTag r119 H129.size 100008 := ⟨_, rfl⟩
  have hf146 : zFr H129 r119 H141 r145 (fun _ => False) := by rw [er145]; exact hN143.fr r119 100008 _
  obtain ⟨q144, eq144⟩ : ∃ z, z = H129.size := ⟨_, rfl⟩
  have q144t : r145.1 q144 = 100008 := by rw [er145, eq144]; exact zTag_1
  rw [← eq144]
  have ho147 := ho133.fr hf146 (fun h => h)
  have ha148 := ha134.fr hf146 (fun h => h)
  have ha149 := ha135.fr hf146 (fun h => h)
  have ha150 := ha136.fr hf146 (fun h => h)
  have ha151 := ha137.fr hf146 (fun h => h)
  have ha152 := ha138.fr hf146 (fun h => h)
  have ha153 := ha139.fr hf146 (fun h => h)
  have ha154 := ha140.fr hf146 (fun h => h)
  have ha155 : zA (zEn x) H141 r145 100008 q144 16344 (fun _ => 0) := ⟨by rw [eq144]; exact hA142, q144t⟩
  refine z_putf kP_X6_31 O (fun _ => rfl) dX6_init_72 ho147.1 rfl rfl (Nat.le_of_ble_eq_true rfl) (fun H156 hO157 hC158 => ?_)
  have hf159 := ho147.ch hC158
  have ho160 : zO (zEn x) H156 r145 100000 q 6 [.int (iI 0), .ref q4, .int (iI 0), .int (iI 0), .int (iI 0), .int (iI 0), .ref q18, .ref q34, .ref q52, .ref q72, .ref q94, .ref q118, .ref q144, .int (iI 0), .int (iI 0), .null, .null] := ⟨hO157, ho147.2⟩
  have ha161 := ha148.fr hf159 (zT1 (by omega))
  have ha162 := ha149.fr hf159 (zT1 (by omega))
  have ha163 := ha150.fr hf159 (zT1 (by omega))
  have ha164 := ha151.fr hf159 (zT1 (by omega))
  have ha165 := ha152.fr hf159 (zT1 (by omega))
  have ha166 := ha153.fr hf159 (zT1 (by omega))
  have ha167 := ha154.fr hf159 (zT1 (by omega))
  have ha168 := ha155.fr hf159 (zT1 (by omega))
  refine z_aload_n 0 O dX6_init_75 rfl ?_
  refine z_sipush 8172 O dX6_init_76 (by decide +kernel) ?_
  refine z_newi (n := 8172) O dX6_init_79 ⟨by omega, by omega⟩ (by omega) (by omega) (by omega) (by omega) (by omega) (fun H169 hA170 hN171 => ?_)
  obtain ⟨r173, er173⟩ : ∃ z, z = zTag r145 H156.size 100009 := ⟨_, rfl⟩
  have hf174 : zFr H156 r145 H169 r173 (fun _ => False) := by rw [er173]; exact hN171.fr r145 100009 _
  obtain ⟨q172, eq172⟩ : ∃ z, z = H156.size := ⟨_, rfl⟩
  have q172t : r173.1 q172 = 100009 := by rw [er173, eq172]; exact zTag_1
  rw [← eq172]
  have ho175 := ho160.fr hf174 (fun h => h)
  have ha176 := ha161.fr hf174 (fun h => h)
  have ha177 := ha162.fr hf174 (fun h => h)
  have ha178 := ha163.fr hf174 (fun h => h)
  have ha179 := ha164.fr hf174 (fun h => h)
  have ha180 := ha165.fr hf174 (fun h => h)
  have ha181 := ha166.fr hf174 (fun h => h)
  have ha182 := ha167.fr hf174 (fun h => h)
  have ha183 := ha168.fr hf174 (fun h => h)
  have ha184 : zA (zEn x) H169 r173 100009 q172 8172 (fun _ => 0) := ⟨by rw [eq172]; exact hA170, q172t⟩
  refine z_putf kP_X6_34 O (fun _ => rfl) dX6_init_81 ho175.1 rfl rfl (Nat.le_of_ble_eq_true rfl) (fun H185 hO186 hC187 => ?_)
  have hf188 := ho175.ch hC187
  have ho189 : zO (zEn x) H185 r173 100000 q 6 [.int (iI 0), .ref q4, .int (iI 0), .int (iI 0), .int (iI 0), .int (iI 0), .ref q18, .ref q34, .ref q52, .ref q72, .ref q94, .ref q118, .ref q144, .int (iI 0), .int (iI 0), .ref q172, .null] := ⟨hO186, ho175.2⟩
  have ha190 := ha176.fr hf188 (zT1 (by omega))
  have ha191 := ha177.fr hf188 (zT1 (by omega))
  have ha192 := ha178.fr hf188 (zT1 (by omega))
  have ha193 := ha179.fr hf188 (zT1 (by omega))
  have ha194 := ha180.fr hf188 (zT1 (by omega))
  have ha195 := ha181.fr hf188 (zT1 (by omega))
  have ha196 := ha182.fr hf188 (zT1 (by omega))
  have ha197 := ha183.fr hf188 (zT1 (by omega))
  have ha198 := ha184.fr hf188 (zT1 (by omega))
  refine z_aload_n 0 O dX6_init_84 rfl ?_
  refine z_iconst 2 O dX6_init_85 (by decide +kernel) ?_
  refine z_newz (n := 2) O dX6_init_86 ⟨by omega, by omega⟩ (by omega) (by omega) (by omega) (by omega) (by omega) (fun H199 hA200 hN201 => ?_)
  obtain ⟨r203, er203⟩ : ∃ z, z = zTag r173 H185.size 100010 := ⟨_, rfl⟩
  have hf204 : zFr H185 r173 H199 r203 (fun _ => False) := by rw [er203]; exact hN201.fr r173 100010 _
  obtain ⟨q202, eq202⟩ : ∃ z, z = H185.size := ⟨_, rfl⟩
  have q202t : r203.1 q202 = 100010 := by rw [er203, eq202]; exact zTag_1
  rw [← eq202]
  have ho205 := ho189.fr hf204 (fun h => h)
  have ha206 := ha190.fr hf204 (fun h => h)
  have ha207 := ha191.fr hf204 (fun h => h)
  have ha208 := ha192.fr hf204 (fun h => h)
  have ha209 := ha193.fr hf204 (fun h => h)
  have ha210 := ha194.fr hf204 (fun h => h)
  have ha211 := ha195.fr hf204 (fun h => h)
  have ha212 := ha196.fr hf204 (fun h => h)
  have ha213 := ha197.fr hf204 (fun h => h)
  have ha214 := ha198.fr hf204 (fun h => h)
  have ha215 : zZ (zEn x) H199 r203 100010 q202 2 (fun _ => 0) := ⟨by rw [eq202]; exact hA200, q202t⟩
  refine z_putf kP_X6_37 O (fun _ => rfl) dX6_init_88 ho205.1 rfl rfl (Nat.le_of_ble_eq_true rfl) (fun H216 hO217 hC218 => ?_)
  have hf219 := ho205.ch hC218
  have ho220 : zO (zEn x) H216 r203 100000 q 6 [.int (iI 0), .ref q4, .int (iI 0), .int (iI 0), .int (iI 0), .int (iI 0), .ref q18, .ref q34, .ref q52, .ref q72, .ref q94, .ref q118, .ref q144, .int (iI 0), .int (iI 0), .ref q172, .ref q202] := ⟨hO217, ho205.2⟩
  have ha221 := ha206.fr hf219 (zT1 (by omega))
  have ha222 := ha207.fr hf219 (zT1 (by omega))
  have ha223 := ha208.fr hf219 (zT1 (by omega))
  have ha224 := ha209.fr hf219 (zT1 (by omega))
  have ha225 := ha210.fr hf219 (zT1 (by omega))
  have ha226 := ha211.fr hf219 (zT1 (by omega))
  have ha227 := ha212.fr hf219 (zT1 (by omega))
  have ha228 := ha213.fr hf219 (zT1 (by omega))
  have ha229 := ha214.fr hf219 (zT1 (by omega))
  have ha230 := ha215.fr hf219 (zT1 (by omega))
  refine z_aload_n 0 O dX6_init_91 rfl ?_
  refine z_getf kF_X6_16 O dX6_init_92 ho220.1 rfl ?_
  refine z_Svm [.ref q34] [] kM_X6_41 O dX6_init_95 (c_X6_clean hst ha223) rfl rfl (by decide) (Nat.le_of_ble_eq_true rfl) (by omega) (by omega) (Nat.le_of_ble_eq_true rfl) zNx (fun H231 hp232 hz233 => ?_)
  obtain ⟨hf234, ha235⟩ := hp232
  have ho236 := ho220.fr hf234 (by first | exact zT1 (by omega) | (show ¬ (_ ∨ _); omega) | (show ¬ (_ ∧ _); omega))
  have ha237 := ha221.fr hf234 (by first | exact zT1 (by omega) | (show ¬ (_ ∨ _); omega) | (show ¬ (_ ∧ _); omega))
  have ha238 := ha222.fr hf234 (by first | exact zT1 (by omega) | (show ¬ (_ ∨ _); omega) | (show ¬ (_ ∧ _); omega))
  have ha239 := ha224.fr hf234 (by first | exact zT1 (by omega) | (show ¬ (_ ∨ _); omega) | (show ¬ (_ ∧ _); omega))
  have ha240 := ha225.fr hf234 (by first | exact zT1 (by omega) | (show ¬ (_ ∨ _); omega) | (show ¬ (_ ∧ _); omega))
  have ha241 := ha226.fr hf234 (by first | exact zT1 (by omega) | (show ¬ (_ ∨ _); omega) | (show ¬ (_ ∧ _); omega))
  have ha242 := ha227.fr hf234 (by first | exact zT1 (by omega) | (show ¬ (_ ∨ _); omega) | (show ¬ (_ ∧ _); omega))
  have ha243 := ha228.fr hf234 (by first | exact zT1 (by omega) | (show ¬ (_ ∨ _); omega) | (show ¬ (_ ∧ _); omega))
  have ha244 := ha229.fr hf234 (by first | exact zT1 (by omega) | (show ¬ (_ ∨ _); omega) | (show ¬ (_ ∧ _); omega))
  have ha245 := ha230.fr hf234 (by first | exact zT1 (by omega) | (show ¬ (_ ∨ _); omega) | (show ¬ (_ ∧ _); omega))
  exact z_iretv O dX6_init_98 rfl (by omega) (by omega) hpo (⟨r203, (fun k : Nat => if k = 1 then q4 else if k = 2 then q18 else if k = 3 then q34 else if k = 4 then q52 else if k = 5 then q72 else if k = 6 then q94 else if k = 7 then q118 else if k = 8 then q144 else if k = 9 then q172 else q202), (((((((((((((((((((((((((((((((((((((((((hf6.up (fun s h => by first | exact h.elim | omega | (simp at h ⊢; omega)))).tr (hf12.up (fun s h => by first | exact h.elim | omega | (simp at h ⊢; omega))))).tr (hf20.up (fun s h => by first | exact h.elim | omega | (simp at h ⊢; omega))))).tr (hf27.up (fun s h => by first | exact h.elim | omega | (simp at h ⊢; omega))))).tr (hf36.up (fun s h => by first | exact h.elim | omega | (simp at h ⊢; omega))))).tr (hf44.up (fun s h => by first | exact h.elim | omega | (simp at h ⊢; omega))))).tr (hf54.up (fun s h => by first | exact h.elim | omega | (simp at h ⊢; omega))))).tr (hf63.up (fun s h => by first | exact h.elim | omega | (simp at h ⊢; omega))))).tr (hf74.up (fun s h => by first | exact h.elim | omega | (simp at h ⊢; omega))))).tr (hf84.up (fun s h => by first | exact h.elim | omega | (simp at h ⊢; omega))))).tr (hf96.up (fun s h => by first | exact h.elim | omega | (simp at h ⊢; omega))))).tr (hf107.up (fun s h => by first | exact h.elim | omega | (simp at h ⊢; omega))))).tr (hf120.up (fun s h => by first | exact h.elim | omega | (simp at h ⊢; omega))))).tr (hf132.up (fun s h => by first | exact h.elim | omega | (simp at h ⊢; omega))))).tr (hf146.up (fun s h => by first | exact h.elim | omega | (simp at h ⊢; omega))))).tr (hf159.up (fun s h => by first | exact h.elim | omega | (simp at h ⊢; omega))))).tr (hf174.up (fun s h => by first | exact h.elim | omega | (simp at h ⊢; omega))))).tr (hf188.up (fun s h => by first | exact h.elim | omega | (simp at h ⊢; omega))))).tr (hf204.up (fun s h => by first | exact h.elim | omega | (simp at h ⊢; omega))))).tr (hf219.up (fun s h => by first | exact h.elim | omega | (simp at h ⊢; omega))))).tr (hf234.up (fun s h => by first | exact h.elim | omega | (simp at h ⊢; omega)))), 0, false, 0, _, _, ho236, ha237, ha238, ha235, ha239, ⟨ha240, ha241, ha242, ha243⟩, ha244, ha245⟩)
