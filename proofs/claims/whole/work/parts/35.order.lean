set_option maxHeartbeats 4000000 in
set_option maxRecDepth 100000 in
theorem c_X3_performOrder_98 {G : sv_G} {M : sv_Mem} {x : Nat → Int32} {n p : Nat} {r : Int32} {M2 : sv_Mem} (T : TC M x n) (hp1 : p + 1 < n) (hL : x (p + 1) = nI 98)  (hOp : sv_Ct G M_X1_openTransaction 1 [.ref (sv_ad G 10 0 0), .int (x p - nI 48)] M (some (.int r)) M2) : sv_Ct G M_X3_performOrder 5 [.ref (sv_ad G 0 8 0), .int (nI p)] M (some (.int r)) (M2) := by
  refine sv_Ct_of (lo := [some (.ref (sv_ad G 0 8 0)), some (.int (nI p)), none, none]) (pn_X3) rfl (Nat.le_of_ble_eq_true rfl) rfl (fun K X Y => ?_)
  replace X : sv_X G K cX3_performOrder RX3 4 5 := X
  replace Y : sv_Y G K (some .int) _ _ := Y
  show sw_W G K 4 0 _ _ _
  refine sw_aload_0 X dX3_performOrder_0 ?_
  refine gf_X3_26 X dX3_performOrder_1 ?_
  refine sw_iload_1 X dX3_performOrder_4 ?_
  refine ca_X3_193 X (by decide) dX3_performOrder_5 (Nat.le_of_ble_eq_true rfl) (c_X0_characterAt T (by omega)) ?_
  refine sw_bipush X (nI 48) dX3_performOrder_8 (by decide) ?_
  refine sw_isub X dX3_performOrder_10 ?_
  refine sw_istore_2 X dX3_performOrder_11 trivial ?_
  refine sw_iload_1 X dX3_performOrder_12 ?_
  refine sw_iconst X (nI 2) dX3_performOrder_13 (by decide) ?_
  refine sw_iadd X dX3_performOrder_14 ?_
  try refine sw_tope (nI_add _ _) ?_
  refine sw_istore_3 X dX3_performOrder_15 trivial ?_
  refine sw_aload_0 X dX3_performOrder_16 ?_
  refine gf_X3_26 X dX3_performOrder_17 ?_
  refine sw_iload_1 X dX3_performOrder_20 ?_
  refine sw_iconst X (nI 1) dX3_performOrder_21 (by decide) ?_
  refine sw_iadd X dX3_performOrder_22 ?_
  try refine sw_tope (nI_add _ _) ?_
  refine ca_X3_193 X (by decide) dX3_performOrder_23 (Nat.le_of_ble_eq_true rfl) (c_X0_characterAt T (by omega)) ?_
  refine sw_tope hL ?_
  refine sw_tabInV X 128 dX3_performOrder_26 (q := 0) rfl (by decide) (by decide) ?_
  refine sw_aload_0 X dX3_performOrder_128 ?_
  refine gf_X3_12 X dX3_performOrder_129 ?_
  refine sw_iload_2 X dX3_performOrder_132 ?_
  refine ca_X3_41 X (by decide) (by decide) dX3_performOrder_133 (Nat.le_of_ble_eq_true rfl) hOp ?_
  exact sw_iret X Y dX3_performOrder_136 (rfl) (rfl)
set_option maxHeartbeats 4000000 in
set_option maxRecDepth 100000 in
theorem c_X3_performOrder_99 {G : sv_G} {M : sv_Mem} {x : Nat → Int32} {n p : Nat} {r : Int32} {M2 : sv_Mem} (T : TC M x n) (hp1 : p + 1 < n) (hL : x (p + 1) = nI 99)  (hOp : sv_Ct G M_X1_commitTransaction 2 [.ref (sv_ad G 10 0 0), .int (x p - nI 48)] M (some (.int r)) M2) : sv_Ct G M_X3_performOrder 5 [.ref (sv_ad G 0 8 0), .int (nI p)] M (some (.int r)) (M2) := by
  refine sv_Ct_of (lo := [some (.ref (sv_ad G 0 8 0)), some (.int (nI p)), none, none]) (pn_X3) rfl (Nat.le_of_ble_eq_true rfl) rfl (fun K X Y => ?_)
  replace X : sv_X G K cX3_performOrder RX3 4 5 := X
  replace Y : sv_Y G K (some .int) _ _ := Y
  show sw_W G K 4 0 _ _ _
  refine sw_aload_0 X dX3_performOrder_0 ?_
  refine gf_X3_26 X dX3_performOrder_1 ?_
  refine sw_iload_1 X dX3_performOrder_4 ?_
  refine ca_X3_193 X (by decide) dX3_performOrder_5 (Nat.le_of_ble_eq_true rfl) (c_X0_characterAt T (by omega)) ?_
  refine sw_bipush X (nI 48) dX3_performOrder_8 (by decide) ?_
  refine sw_isub X dX3_performOrder_10 ?_
  refine sw_istore_2 X dX3_performOrder_11 trivial ?_
  refine sw_iload_1 X dX3_performOrder_12 ?_
  refine sw_iconst X (nI 2) dX3_performOrder_13 (by decide) ?_
  refine sw_iadd X dX3_performOrder_14 ?_
  try refine sw_tope (nI_add _ _) ?_
  refine sw_istore_3 X dX3_performOrder_15 trivial ?_
  refine sw_aload_0 X dX3_performOrder_16 ?_
  refine gf_X3_26 X dX3_performOrder_17 ?_
  refine sw_iload_1 X dX3_performOrder_20 ?_
  refine sw_iconst X (nI 1) dX3_performOrder_21 (by decide) ?_
  refine sw_iadd X dX3_performOrder_22 ?_
  try refine sw_tope (nI_add _ _) ?_
  refine ca_X3_193 X (by decide) dX3_performOrder_23 (Nat.le_of_ble_eq_true rfl) (c_X0_characterAt T (by omega)) ?_
  refine sw_tope hL ?_
  refine sw_tabInV X 137 dX3_performOrder_26 (q := 1) rfl (by decide) (by decide) ?_
  refine sw_aload_0 X dX3_performOrder_137 ?_
  refine gf_X3_12 X dX3_performOrder_138 ?_
  refine sw_iload_2 X dX3_performOrder_141 ?_
  refine ca_X3_44 X (by decide) (by decide) dX3_performOrder_142 (Nat.le_of_ble_eq_true rfl) hOp ?_
  exact sw_iret X Y dX3_performOrder_145 (rfl) (rfl)
set_option maxHeartbeats 4000000 in
set_option maxRecDepth 100000 in
theorem c_X3_performOrder_114 {G : sv_G} {M : sv_Mem} {x : Nat → Int32} {n p : Nat} {r : Int32} {M2 : sv_Mem} (T : TC M x n) (hp1 : p + 1 < n) (hL : x (p + 1) = nI 114)  (hOp : sv_Ct G M_X1_rollTransactionBack 3 [.ref (sv_ad G 10 0 0), .int (x p - nI 48)] M (some (.int r)) M2) : sv_Ct G M_X3_performOrder 5 [.ref (sv_ad G 0 8 0), .int (nI p)] M (some (.int r)) (M2) := by
  refine sv_Ct_of (lo := [some (.ref (sv_ad G 0 8 0)), some (.int (nI p)), none, none]) (pn_X3) rfl (Nat.le_of_ble_eq_true rfl) rfl (fun K X Y => ?_)
  replace X : sv_X G K cX3_performOrder RX3 4 5 := X
  replace Y : sv_Y G K (some .int) _ _ := Y
  show sw_W G K 4 0 _ _ _
  refine sw_aload_0 X dX3_performOrder_0 ?_
  refine gf_X3_26 X dX3_performOrder_1 ?_
  refine sw_iload_1 X dX3_performOrder_4 ?_
  refine ca_X3_193 X (by decide) dX3_performOrder_5 (Nat.le_of_ble_eq_true rfl) (c_X0_characterAt T (by omega)) ?_
  refine sw_bipush X (nI 48) dX3_performOrder_8 (by decide) ?_
  refine sw_isub X dX3_performOrder_10 ?_
  refine sw_istore_2 X dX3_performOrder_11 trivial ?_
  refine sw_iload_1 X dX3_performOrder_12 ?_
  refine sw_iconst X (nI 2) dX3_performOrder_13 (by decide) ?_
  refine sw_iadd X dX3_performOrder_14 ?_
  try refine sw_tope (nI_add _ _) ?_
  refine sw_istore_3 X dX3_performOrder_15 trivial ?_
  refine sw_aload_0 X dX3_performOrder_16 ?_
  refine gf_X3_26 X dX3_performOrder_17 ?_
  refine sw_iload_1 X dX3_performOrder_20 ?_
  refine sw_iconst X (nI 1) dX3_performOrder_21 (by decide) ?_
  refine sw_iadd X dX3_performOrder_22 ?_
  try refine sw_tope (nI_add _ _) ?_
  refine ca_X3_193 X (by decide) dX3_performOrder_23 (Nat.le_of_ble_eq_true rfl) (c_X0_characterAt T (by omega)) ?_
  refine sw_tope hL ?_
  refine sw_tabInV X 146 dX3_performOrder_26 (q := 16) rfl (by decide) (by decide) ?_
  refine sw_aload_0 X dX3_performOrder_146 ?_
  refine gf_X3_12 X dX3_performOrder_147 ?_
  refine sw_iload_2 X dX3_performOrder_150 ?_
  refine ca_X3_47 X (by decide) (by decide) dX3_performOrder_151 (Nat.le_of_ble_eq_true rfl) hOp ?_
  exact sw_iret X Y dX3_performOrder_154 (rfl) (rfl)
set_option maxHeartbeats 4000000 in
set_option maxRecDepth 100000 in
theorem c_X3_performOrder_115 {G : sv_G} {M : sv_Mem} {x : Nat → Int32} {n p : Nat} {r : Int32} {M2 : sv_Mem} (T : TC M x n) (hp1 : p + 1 < n) (hL : x (p + 1) = nI 115) (h2 : p + 2 < n) (hOp : sv_Ct G M_X1_setSavepoint 2 [.ref (sv_ad G 10 0 0), .int (x p - nI 48), .int (x (p + 2) - nI 97)] M (some (.int r)) M2) : sv_Ct G M_X3_performOrder 5 [.ref (sv_ad G 0 8 0), .int (nI p)] M (some (.int r)) (M2) := by
  refine sv_Ct_of (lo := [some (.ref (sv_ad G 0 8 0)), some (.int (nI p)), none, none]) (pn_X3) rfl (Nat.le_of_ble_eq_true rfl) rfl (fun K X Y => ?_)
  replace X : sv_X G K cX3_performOrder RX3 4 5 := X
  replace Y : sv_Y G K (some .int) _ _ := Y
  show sw_W G K 4 0 _ _ _
  refine sw_aload_0 X dX3_performOrder_0 ?_
  refine gf_X3_26 X dX3_performOrder_1 ?_
  refine sw_iload_1 X dX3_performOrder_4 ?_
  refine ca_X3_193 X (by decide) dX3_performOrder_5 (Nat.le_of_ble_eq_true rfl) (c_X0_characterAt T (by omega)) ?_
  refine sw_bipush X (nI 48) dX3_performOrder_8 (by decide) ?_
  refine sw_isub X dX3_performOrder_10 ?_
  refine sw_istore_2 X dX3_performOrder_11 trivial ?_
  refine sw_iload_1 X dX3_performOrder_12 ?_
  refine sw_iconst X (nI 2) dX3_performOrder_13 (by decide) ?_
  refine sw_iadd X dX3_performOrder_14 ?_
  try refine sw_tope (nI_add _ _) ?_
  refine sw_istore_3 X dX3_performOrder_15 trivial ?_
  refine sw_aload_0 X dX3_performOrder_16 ?_
  refine gf_X3_26 X dX3_performOrder_17 ?_
  refine sw_iload_1 X dX3_performOrder_20 ?_
  refine sw_iconst X (nI 1) dX3_performOrder_21 (by decide) ?_
  refine sw_iadd X dX3_performOrder_22 ?_
  try refine sw_tope (nI_add _ _) ?_
  refine ca_X3_193 X (by decide) dX3_performOrder_23 (Nat.le_of_ble_eq_true rfl) (c_X0_characterAt T (by omega)) ?_
  refine sw_tope hL ?_
  refine sw_tabInV X 155 dX3_performOrder_26 (q := 17) rfl (by decide) (by decide) ?_
  refine sw_aload_0 X dX3_performOrder_155 ?_
  refine gf_X3_12 X dX3_performOrder_156 ?_
  refine sw_iload_2 X dX3_performOrder_159 ?_
  refine sw_aload_0 X dX3_performOrder_160 ?_
  refine gf_X3_26 X dX3_performOrder_161 ?_
  refine sw_iload_3 X dX3_performOrder_164 ?_
  refine ca_X3_193 X (by decide) dX3_performOrder_165 (Nat.le_of_ble_eq_true rfl) (c_X0_characterAt T h2) ?_
  refine sw_bipush X (nI 97) dX3_performOrder_168 (by decide) ?_
  refine sw_isub X dX3_performOrder_170 ?_
  refine ca_X3_50 X (by decide) (by decide) dX3_performOrder_171 (Nat.le_of_ble_eq_true rfl) hOp ?_
  exact sw_iret X Y dX3_performOrder_174 (rfl) (rfl)
set_option maxHeartbeats 4000000 in
set_option maxRecDepth 100000 in
theorem c_X3_performOrder_117 {G : sv_G} {M : sv_Mem} {x : Nat → Int32} {n p : Nat} {r : Int32} {M2 : sv_Mem} (T : TC M x n) (hp1 : p + 1 < n) (hL : x (p + 1) = nI 117) (h2 : p + 2 < n) (hOp : sv_Ct G M_X1_undoToName 4 [.ref (sv_ad G 10 0 0), .int (x p - nI 48), .int (x (p + 2) - nI 97)] M (some (.int r)) M2) : sv_Ct G M_X3_performOrder 5 [.ref (sv_ad G 0 8 0), .int (nI p)] M (some (.int r)) (M2) := by
  refine sv_Ct_of (lo := [some (.ref (sv_ad G 0 8 0)), some (.int (nI p)), none, none]) (pn_X3) rfl (Nat.le_of_ble_eq_true rfl) rfl (fun K X Y => ?_)
  replace X : sv_X G K cX3_performOrder RX3 4 5 := X
  replace Y : sv_Y G K (some .int) _ _ := Y
  show sw_W G K 4 0 _ _ _
  refine sw_aload_0 X dX3_performOrder_0 ?_
  refine gf_X3_26 X dX3_performOrder_1 ?_
  refine sw_iload_1 X dX3_performOrder_4 ?_
  refine ca_X3_193 X (by decide) dX3_performOrder_5 (Nat.le_of_ble_eq_true rfl) (c_X0_characterAt T (by omega)) ?_
  refine sw_bipush X (nI 48) dX3_performOrder_8 (by decide) ?_
  refine sw_isub X dX3_performOrder_10 ?_
  refine sw_istore_2 X dX3_performOrder_11 trivial ?_
  refine sw_iload_1 X dX3_performOrder_12 ?_
  refine sw_iconst X (nI 2) dX3_performOrder_13 (by decide) ?_
  refine sw_iadd X dX3_performOrder_14 ?_
  try refine sw_tope (nI_add _ _) ?_
  refine sw_istore_3 X dX3_performOrder_15 trivial ?_
  refine sw_aload_0 X dX3_performOrder_16 ?_
  refine gf_X3_26 X dX3_performOrder_17 ?_
  refine sw_iload_1 X dX3_performOrder_20 ?_
  refine sw_iconst X (nI 1) dX3_performOrder_21 (by decide) ?_
  refine sw_iadd X dX3_performOrder_22 ?_
  try refine sw_tope (nI_add _ _) ?_
  refine ca_X3_193 X (by decide) dX3_performOrder_23 (Nat.le_of_ble_eq_true rfl) (c_X0_characterAt T (by omega)) ?_
  refine sw_tope hL ?_
  refine sw_tabInV X 175 dX3_performOrder_26 (q := 19) rfl (by decide) (by decide) ?_
  refine sw_aload_0 X dX3_performOrder_175 ?_
  refine gf_X3_12 X dX3_performOrder_176 ?_
  refine sw_iload_2 X dX3_performOrder_179 ?_
  refine sw_aload_0 X dX3_performOrder_180 ?_
  refine gf_X3_26 X dX3_performOrder_181 ?_
  refine sw_iload_3 X dX3_performOrder_184 ?_
  refine ca_X3_193 X (by decide) dX3_performOrder_185 (Nat.le_of_ble_eq_true rfl) (c_X0_characterAt T h2) ?_
  refine sw_bipush X (nI 97) dX3_performOrder_188 (by decide) ?_
  refine sw_isub X dX3_performOrder_190 ?_
  refine ca_X3_54 X (by decide) (by decide) dX3_performOrder_191 (Nat.le_of_ble_eq_true rfl) hOp ?_
  exact sw_iret X Y dX3_performOrder_194 (rfl) (rfl)
set_option maxHeartbeats 4000000 in
set_option maxRecDepth 100000 in
theorem c_X3_performOrder_100 {G : sv_G} {M : sv_Mem} {x : Nat → Int32} {n p : Nat} {r : Int32} {M2 : sv_Mem} (T : TC M x n) (hp1 : p + 1 < n) (hL : x (p + 1) = nI 100) (h2 : p + 2 < n) (hOp : sv_Ct G M_X1_releaseName 4 [.ref (sv_ad G 10 0 0), .int (x p - nI 48), .int (x (p + 2) - nI 97)] M (some (.int r)) M2) : sv_Ct G M_X3_performOrder 5 [.ref (sv_ad G 0 8 0), .int (nI p)] M (some (.int r)) (M2) := by
  refine sv_Ct_of (lo := [some (.ref (sv_ad G 0 8 0)), some (.int (nI p)), none, none]) (pn_X3) rfl (Nat.le_of_ble_eq_true rfl) rfl (fun K X Y => ?_)
  replace X : sv_X G K cX3_performOrder RX3 4 5 := X
  replace Y : sv_Y G K (some .int) _ _ := Y
  show sw_W G K 4 0 _ _ _
  refine sw_aload_0 X dX3_performOrder_0 ?_
  refine gf_X3_26 X dX3_performOrder_1 ?_
  refine sw_iload_1 X dX3_performOrder_4 ?_
  refine ca_X3_193 X (by decide) dX3_performOrder_5 (Nat.le_of_ble_eq_true rfl) (c_X0_characterAt T (by omega)) ?_
  refine sw_bipush X (nI 48) dX3_performOrder_8 (by decide) ?_
  refine sw_isub X dX3_performOrder_10 ?_
  refine sw_istore_2 X dX3_performOrder_11 trivial ?_
  refine sw_iload_1 X dX3_performOrder_12 ?_
  refine sw_iconst X (nI 2) dX3_performOrder_13 (by decide) ?_
  refine sw_iadd X dX3_performOrder_14 ?_
  try refine sw_tope (nI_add _ _) ?_
  refine sw_istore_3 X dX3_performOrder_15 trivial ?_
  refine sw_aload_0 X dX3_performOrder_16 ?_
  refine gf_X3_26 X dX3_performOrder_17 ?_
  refine sw_iload_1 X dX3_performOrder_20 ?_
  refine sw_iconst X (nI 1) dX3_performOrder_21 (by decide) ?_
  refine sw_iadd X dX3_performOrder_22 ?_
  try refine sw_tope (nI_add _ _) ?_
  refine ca_X3_193 X (by decide) dX3_performOrder_23 (Nat.le_of_ble_eq_true rfl) (c_X0_characterAt T (by omega)) ?_
  refine sw_tope hL ?_
  refine sw_tabInV X 195 dX3_performOrder_26 (q := 2) rfl (by decide) (by decide) ?_
  refine sw_aload_0 X dX3_performOrder_195 ?_
  refine gf_X3_12 X dX3_performOrder_196 ?_
  refine sw_iload_2 X dX3_performOrder_199 ?_
  refine sw_aload_0 X dX3_performOrder_200 ?_
  refine gf_X3_26 X dX3_performOrder_201 ?_
  refine sw_iload_3 X dX3_performOrder_204 ?_
  refine ca_X3_193 X (by decide) dX3_performOrder_205 (Nat.le_of_ble_eq_true rfl) (c_X0_characterAt T h2) ?_
  refine sw_bipush X (nI 97) dX3_performOrder_208 (by decide) ?_
  refine sw_isub X dX3_performOrder_210 ?_
  refine ca_X3_57 X (by decide) (by decide) dX3_performOrder_211 (Nat.le_of_ble_eq_true rfl) hOp ?_
  exact sw_iret X Y dX3_performOrder_214 (rfl) (rfl)
set_option maxHeartbeats 4000000 in
set_option maxRecDepth 100000 in
theorem c_X3_performOrder_119 {G : sv_G} {M : sv_Mem} {x : Nat → Int32} {n p : Nat} {r : Int32} {M2 : sv_Mem} (T : TC M x n) (hp1 : p + 1 < n) (hL : x (p + 1) = nI 119) (h2 : p + 2 ≤ n) (h3 : eoR x n (p + 2) + 1 ≤ n) (hOp : sv_Ct G M_X1_writeKey 4 [.ref (sv_ad G 10 0 0), .int (x p - nI 48), .int (nI (nuR x n (p + 2))), .int (nI (nuR x n (eoR x n (p + 2) + 1)))] M (some (.int r)) M2) : sv_Ct G M_X3_performOrder 5 [.ref (sv_ad G 0 8 0), .int (nI p)] M (some (.int r)) (M2) := by
  refine sv_Ct_of (lo := [some (.ref (sv_ad G 0 8 0)), some (.int (nI p)), none, none]) (pn_X3) rfl (Nat.le_of_ble_eq_true rfl) rfl (fun K X Y => ?_)
  replace X : sv_X G K cX3_performOrder RX3 4 5 := X
  replace Y : sv_Y G K (some .int) _ _ := Y
  show sw_W G K 4 0 _ _ _
  refine sw_aload_0 X dX3_performOrder_0 ?_
  refine gf_X3_26 X dX3_performOrder_1 ?_
  refine sw_iload_1 X dX3_performOrder_4 ?_
  refine ca_X3_193 X (by decide) dX3_performOrder_5 (Nat.le_of_ble_eq_true rfl) (c_X0_characterAt T (by omega)) ?_
  refine sw_bipush X (nI 48) dX3_performOrder_8 (by decide) ?_
  refine sw_isub X dX3_performOrder_10 ?_
  refine sw_istore_2 X dX3_performOrder_11 trivial ?_
  refine sw_iload_1 X dX3_performOrder_12 ?_
  refine sw_iconst X (nI 2) dX3_performOrder_13 (by decide) ?_
  refine sw_iadd X dX3_performOrder_14 ?_
  try refine sw_tope (nI_add _ _) ?_
  refine sw_istore_3 X dX3_performOrder_15 trivial ?_
  refine sw_aload_0 X dX3_performOrder_16 ?_
  refine gf_X3_26 X dX3_performOrder_17 ?_
  refine sw_iload_1 X dX3_performOrder_20 ?_
  refine sw_iconst X (nI 1) dX3_performOrder_21 (by decide) ?_
  refine sw_iadd X dX3_performOrder_22 ?_
  try refine sw_tope (nI_add _ _) ?_
  refine ca_X3_193 X (by decide) dX3_performOrder_23 (Nat.le_of_ble_eq_true rfl) (c_X0_characterAt T (by omega)) ?_
  refine sw_tope hL ?_
  refine sw_tabInV X 215 dX3_performOrder_26 (q := 21) rfl (by decide) (by decide) ?_
  refine sw_aload_0 X dX3_performOrder_215 ?_
  refine gf_X3_12 X dX3_performOrder_216 ?_
  refine sw_iload_2 X dX3_performOrder_219 ?_
  refine sw_aload_0 X dX3_performOrder_220 ?_
  refine gf_X3_26 X dX3_performOrder_221 ?_
  refine sw_iload_3 X dX3_performOrder_224 ?_
  refine ca_X3_197 X (by decide) dX3_performOrder_225 (Nat.le_of_ble_eq_true rfl) (c_X0_numberAt T h2) ?_
  refine sw_aload_0 X dX3_performOrder_228 ?_
  refine gf_X3_26 X dX3_performOrder_229 ?_
  refine sw_aload_0 X dX3_performOrder_232 ?_
  refine gf_X3_26 X dX3_performOrder_233 ?_
  refine sw_iload_3 X dX3_performOrder_236 ?_
  refine ca_X3_200 X (by decide) dX3_performOrder_237 (Nat.le_of_ble_eq_true rfl) (c_X0_endOfNumber T h2) ?_
  refine sw_iconst X (nI 1) dX3_performOrder_240 (by decide) ?_
  refine sw_iadd X dX3_performOrder_241 ?_
  try refine sw_tope (nI_add _ _) ?_
  refine ca_X3_197 X (by decide) dX3_performOrder_242 (Nat.le_of_ble_eq_true rfl) (c_X0_numberAt T h3) ?_
  refine ca_X3_63 X (by decide) (by decide) dX3_performOrder_245 (Nat.le_of_ble_eq_true rfl) hOp ?_
  exact sw_iret X Y dX3_performOrder_248 (rfl) (rfl)
set_option maxHeartbeats 4000000 in
set_option maxRecDepth 100000 in
theorem c_X3_performOrder_101 {G : sv_G} {M : sv_Mem} {x : Nat → Int32} {n p : Nat} {r : Int32} {M2 : sv_Mem} (T : TC M x n) (hp1 : p + 1 < n) (hL : x (p + 1) = nI 101) (h2 : p + 2 ≤ n) (hOp : sv_Ct G M_X1_eraseKey 4 [.ref (sv_ad G 10 0 0), .int (x p - nI 48), .int (nI (nuR x n (p + 2)))] M (some (.int r)) M2) : sv_Ct G M_X3_performOrder 5 [.ref (sv_ad G 0 8 0), .int (nI p)] M (some (.int r)) (M2) := by
  refine sv_Ct_of (lo := [some (.ref (sv_ad G 0 8 0)), some (.int (nI p)), none, none]) (pn_X3) rfl (Nat.le_of_ble_eq_true rfl) rfl (fun K X Y => ?_)
  replace X : sv_X G K cX3_performOrder RX3 4 5 := X
  replace Y : sv_Y G K (some .int) _ _ := Y
  show sw_W G K 4 0 _ _ _
  refine sw_aload_0 X dX3_performOrder_0 ?_
  refine gf_X3_26 X dX3_performOrder_1 ?_
  refine sw_iload_1 X dX3_performOrder_4 ?_
  refine ca_X3_193 X (by decide) dX3_performOrder_5 (Nat.le_of_ble_eq_true rfl) (c_X0_characterAt T (by omega)) ?_
  refine sw_bipush X (nI 48) dX3_performOrder_8 (by decide) ?_
  refine sw_isub X dX3_performOrder_10 ?_
  refine sw_istore_2 X dX3_performOrder_11 trivial ?_
  refine sw_iload_1 X dX3_performOrder_12 ?_
  refine sw_iconst X (nI 2) dX3_performOrder_13 (by decide) ?_
  refine sw_iadd X dX3_performOrder_14 ?_
  try refine sw_tope (nI_add _ _) ?_
  refine sw_istore_3 X dX3_performOrder_15 trivial ?_
  refine sw_aload_0 X dX3_performOrder_16 ?_
  refine gf_X3_26 X dX3_performOrder_17 ?_
  refine sw_iload_1 X dX3_performOrder_20 ?_
  refine sw_iconst X (nI 1) dX3_performOrder_21 (by decide) ?_
  refine sw_iadd X dX3_performOrder_22 ?_
  try refine sw_tope (nI_add _ _) ?_
  refine ca_X3_193 X (by decide) dX3_performOrder_23 (Nat.le_of_ble_eq_true rfl) (c_X0_characterAt T (by omega)) ?_
  refine sw_tope hL ?_
  refine sw_tabInV X 249 dX3_performOrder_26 (q := 3) rfl (by decide) (by decide) ?_
  refine sw_aload_0 X dX3_performOrder_249 ?_
  refine gf_X3_12 X dX3_performOrder_250 ?_
  refine sw_iload_2 X dX3_performOrder_253 ?_
  refine sw_aload_0 X dX3_performOrder_254 ?_
  refine gf_X3_26 X dX3_performOrder_255 ?_
  refine sw_iload_3 X dX3_performOrder_258 ?_
  refine ca_X3_197 X (by decide) dX3_performOrder_259 (Nat.le_of_ble_eq_true rfl) (c_X0_numberAt T h2) ?_
  refine ca_X3_67 X (by decide) (by decide) dX3_performOrder_262 (Nat.le_of_ble_eq_true rfl) hOp ?_
  exact sw_iret X Y dX3_performOrder_265 (rfl) (rfl)
set_option maxHeartbeats 4000000 in
set_option maxRecDepth 100000 in
theorem c_X3_performOrder_103 {G : sv_G} {M : sv_Mem} {x : Nat → Int32} {n p : Nat} {r : Int32} {M2 : sv_Mem} (T : TC M x n) (hp1 : p + 1 < n) (hL : x (p + 1) = nI 103) (h2 : p + 2 ≤ n) (hOp : sv_Ct G M_X1_readKey 4 [.ref (sv_ad G 10 0 0), .int (x p - nI 48), .int (nI (nuR x n (p + 2)))] M (some (.int r)) M2) : sv_Ct G M_X3_performOrder 5 [.ref (sv_ad G 0 8 0), .int (nI p)] M (some (.int r)) (M2) := by
  refine sv_Ct_of (lo := [some (.ref (sv_ad G 0 8 0)), some (.int (nI p)), none, none]) (pn_X3) rfl (Nat.le_of_ble_eq_true rfl) rfl (fun K X Y => ?_)
  replace X : sv_X G K cX3_performOrder RX3 4 5 := X
  replace Y : sv_Y G K (some .int) _ _ := Y
  show sw_W G K 4 0 _ _ _
  refine sw_aload_0 X dX3_performOrder_0 ?_
  refine gf_X3_26 X dX3_performOrder_1 ?_
  refine sw_iload_1 X dX3_performOrder_4 ?_
  refine ca_X3_193 X (by decide) dX3_performOrder_5 (Nat.le_of_ble_eq_true rfl) (c_X0_characterAt T (by omega)) ?_
  refine sw_bipush X (nI 48) dX3_performOrder_8 (by decide) ?_
  refine sw_isub X dX3_performOrder_10 ?_
  refine sw_istore_2 X dX3_performOrder_11 trivial ?_
  refine sw_iload_1 X dX3_performOrder_12 ?_
  refine sw_iconst X (nI 2) dX3_performOrder_13 (by decide) ?_
  refine sw_iadd X dX3_performOrder_14 ?_
  try refine sw_tope (nI_add _ _) ?_
  refine sw_istore_3 X dX3_performOrder_15 trivial ?_
  refine sw_aload_0 X dX3_performOrder_16 ?_
  refine gf_X3_26 X dX3_performOrder_17 ?_
  refine sw_iload_1 X dX3_performOrder_20 ?_
  refine sw_iconst X (nI 1) dX3_performOrder_21 (by decide) ?_
  refine sw_iadd X dX3_performOrder_22 ?_
  try refine sw_tope (nI_add _ _) ?_
  refine ca_X3_193 X (by decide) dX3_performOrder_23 (Nat.le_of_ble_eq_true rfl) (c_X0_characterAt T (by omega)) ?_
  refine sw_tope hL ?_
  refine sw_tabInV X 266 dX3_performOrder_26 (q := 5) rfl (by decide) (by decide) ?_
  refine sw_aload_0 X dX3_performOrder_266 ?_
  refine gf_X3_12 X dX3_performOrder_267 ?_
  refine sw_iload_2 X dX3_performOrder_270 ?_
  refine sw_aload_0 X dX3_performOrder_271 ?_
  refine gf_X3_26 X dX3_performOrder_272 ?_
  refine sw_iload_3 X dX3_performOrder_275 ?_
  refine ca_X3_197 X (by decide) dX3_performOrder_276 (Nat.le_of_ble_eq_true rfl) (c_X0_numberAt T h2) ?_
  refine ca_X3_60 X (by decide) (by decide) dX3_performOrder_279 (Nat.le_of_ble_eq_true rfl) hOp ?_
  exact sw_iret X Y dX3_performOrder_282 (rfl) (rfl)
