set_option maxHeartbeats 4000000 in
set_option maxRecDepth 100000 in
theorem c_X4_errorOfOrder_98 {G : sv_G} {M : sv_Mem} {q : Nat} (hw : M 9 4 0 9 = nI q) (hq : q < 3) (hL : M 9 4 0 10 = nI 98) : sv_Ct G M_X4_errorOfOrder 3 [.ref (sv_ad G 4 9 0)] M (some (.int (if (M 9 5 0) (24 + q) = nI 1 then -4 else nI 0))) (M) := by
  refine sv_Ct_of (lo := [some (.ref (sv_ad G 4 9 0))]) (pn_X4) rfl (Nat.le_of_ble_eq_true rfl) rfl (fun K X Y => ?_)
  replace X : sv_X G K cX4_errorOfOrder RX4 1 3 := X
  replace Y : sv_Y G K (some .int) _ _ := Y
  show sw_W G K 1 0 _ _ _
  refine sw_aload_0 X dX4_errorOfOrder_0 ?_
  refine gf_X4_182 X dX4_errorOfOrder_1 ?_
  refine sw_tope hL ?_
  refine sw_lookupV X 48 dX4_errorOfOrder_4 (by decide) rfl (by decide) ?_
  refine sw_aload_0 X dX4_errorOfOrder_48 ?_
  refine sw_aload_0 X dX4_errorOfOrder_49 ?_
  refine gf_X4_179 X dX4_errorOfOrder_50 ?_
  refine sw_tope hw ?_
  refine ca_X4_86 X (by decide) dX4_errorOfOrder_53 (Nat.le_of_ble_eq_true rfl) (c_X4_beginError hq) ?_
  exact sw_iret X Y dX4_errorOfOrder_56 (rfl) (rfl)
set_option maxHeartbeats 4000000 in
set_option maxRecDepth 100000 in
theorem c_X4_errorOfOrder_100 {G : sv_G} {M : sv_Mem} {q mq : Nat} {nm : Int32} (hmq : M 9 5 0 (27 + q) = nI mq) (hmq2 : mq ≤ 12) (hw : M 9 4 0 9 = nI q) (hq : q < 3) (hL : M 9 4 0 10 = nI 100) (ho : M 9 4 0 11 = nm) : sv_Ct G M_X4_errorOfOrder 3 [.ref (sv_ad G 4 9 0)] M (some (.int (nmE (M 9 5 0) q nm mq))) (M) := by
  refine sv_Ct_of (lo := [some (.ref (sv_ad G 4 9 0))]) (pn_X4) rfl (Nat.le_of_ble_eq_true rfl) rfl (fun K X Y => ?_)
  replace X : sv_X G K cX4_errorOfOrder RX4 1 3 := X
  replace Y : sv_Y G K (some .int) _ _ := Y
  show sw_W G K 1 0 _ _ _
  refine sw_aload_0 X dX4_errorOfOrder_0 ?_
  refine gf_X4_182 X dX4_errorOfOrder_1 ?_
  refine sw_tope hL ?_
  refine sw_lookupV X 70 dX4_errorOfOrder_4 (by decide) rfl (by decide) ?_
  refine sw_aload_0 X dX4_errorOfOrder_70 ?_
  refine sw_aload_0 X dX4_errorOfOrder_71 ?_
  refine gf_X4_179 X dX4_errorOfOrder_72 ?_
  refine sw_tope hw ?_
  refine sw_aload_0 X dX4_errorOfOrder_75 ?_
  refine gf_X4_173 X dX4_errorOfOrder_76 ?_
  refine sw_tope ho ?_
  refine ca_X4_114 X (by decide) dX4_errorOfOrder_79 (Nat.le_of_ble_eq_true rfl) (c_X4_nameError hq hmq hmq2) ?_
  exact sw_iret X Y dX4_errorOfOrder_82 (rfl) (rfl)
set_option maxHeartbeats 4000000 in
set_option maxRecDepth 100000 in
theorem c_X4_errorOfOrder_115 {G : sv_G} {M : sv_Mem} {q : Nat} {nm : Int32} (hw : M 9 4 0 9 = nI q) (hq : q < 3) (hL : M 9 4 0 10 = nI 115) (ho : M 9 4 0 11 = nm) : sv_Ct G M_X4_errorOfOrder 3 [.ref (sv_ad G 4 9 0)] M (some (.int (spE (M 9 5 0) q nm))) (M) := by
  refine sv_Ct_of (lo := [some (.ref (sv_ad G 4 9 0))]) (pn_X4) rfl (Nat.le_of_ble_eq_true rfl) rfl (fun K X Y => ?_)
  replace X : sv_X G K cX4_errorOfOrder RX4 1 3 := X
  replace Y : sv_Y G K (some .int) _ _ := Y
  show sw_W G K 1 0 _ _ _
  refine sw_aload_0 X dX4_errorOfOrder_0 ?_
  refine gf_X4_182 X dX4_errorOfOrder_1 ?_
  refine sw_tope hL ?_
  refine sw_lookupV X 57 dX4_errorOfOrder_4 (by decide) rfl (by decide) ?_
  refine sw_aload_0 X dX4_errorOfOrder_57 ?_
  refine sw_aload_0 X dX4_errorOfOrder_58 ?_
  refine gf_X4_179 X dX4_errorOfOrder_59 ?_
  refine sw_tope hw ?_
  refine sw_aload_0 X dX4_errorOfOrder_62 ?_
  refine gf_X4_173 X dX4_errorOfOrder_63 ?_
  refine sw_tope ho ?_
  refine ca_X4_108 X (by decide) dX4_errorOfOrder_66 (Nat.le_of_ble_eq_true rfl) (c_X4_savepointError hq) ?_
  exact sw_iret X Y dX4_errorOfOrder_69 (rfl) (rfl)
set_option maxHeartbeats 4000000 in
set_option maxRecDepth 100000 in
theorem c_X4_errorOfOrder_117 {G : sv_G} {M : sv_Mem} {q mq : Nat} {nm : Int32} (hmq : M 9 5 0 (27 + q) = nI mq) (hmq2 : mq ≤ 12) (hw : M 9 4 0 9 = nI q) (hq : q < 3) (hL : M 9 4 0 10 = nI 117) (ho : M 9 4 0 11 = nm) : sv_Ct G M_X4_errorOfOrder 3 [.ref (sv_ad G 4 9 0)] M (some (.int (nmE (M 9 5 0) q nm mq))) (M) := by
  refine sv_Ct_of (lo := [some (.ref (sv_ad G 4 9 0))]) (pn_X4) rfl (Nat.le_of_ble_eq_true rfl) rfl (fun K X Y => ?_)
  replace X : sv_X G K cX4_errorOfOrder RX4 1 3 := X
  replace Y : sv_Y G K (some .int) _ _ := Y
  show sw_W G K 1 0 _ _ _
  refine sw_aload_0 X dX4_errorOfOrder_0 ?_
  refine gf_X4_182 X dX4_errorOfOrder_1 ?_
  refine sw_tope hL ?_
  refine sw_lookupV X 70 dX4_errorOfOrder_4 (by decide) rfl (by decide) ?_
  refine sw_aload_0 X dX4_errorOfOrder_70 ?_
  refine sw_aload_0 X dX4_errorOfOrder_71 ?_
  refine gf_X4_179 X dX4_errorOfOrder_72 ?_
  refine sw_tope hw ?_
  refine sw_aload_0 X dX4_errorOfOrder_75 ?_
  refine gf_X4_173 X dX4_errorOfOrder_76 ?_
  refine sw_tope ho ?_
  refine ca_X4_114 X (by decide) dX4_errorOfOrder_79 (Nat.le_of_ble_eq_true rfl) (c_X4_nameError hq hmq hmq2) ?_
  exact sw_iret X Y dX4_errorOfOrder_82 (rfl) (rfl)
set_option maxHeartbeats 4000000 in
set_option maxRecDepth 100000 in
theorem c_X4_errorOfOrder_99 {G : sv_G} {M : sv_Mem} {q : Nat} (hw : M 9 4 0 9 = nI q) (hq : q < 3) (hL : M 9 4 0 10 = nI 99) : sv_Ct G M_X4_errorOfOrder 3 [.ref (sv_ad G 4 9 0)] M (some (.int (if (M 9 5 0) (24 + q) = nI 1 then nI 0 else -4))) (M) := by
  refine sv_Ct_of (lo := [some (.ref (sv_ad G 4 9 0))]) (pn_X4) rfl (Nat.le_of_ble_eq_true rfl) rfl (fun K X Y => ?_)
  replace X : sv_X G K cX4_errorOfOrder RX4 1 3 := X
  replace Y : sv_Y G K (some .int) _ _ := Y
  show sw_W G K 1 0 _ _ _
  refine sw_aload_0 X dX4_errorOfOrder_0 ?_
  refine gf_X4_182 X dX4_errorOfOrder_1 ?_
  refine sw_tope hL ?_
  refine sw_lookupV X 83 dX4_errorOfOrder_4 (by decide) rfl (by decide) ?_
  refine sw_aload_0 X dX4_errorOfOrder_83 ?_
  refine sw_aload_0 X dX4_errorOfOrder_84 ?_
  refine gf_X4_179 X dX4_errorOfOrder_85 ?_
  refine sw_tope hw ?_
  refine ca_X4_93 X (by decide) dX4_errorOfOrder_88 (Nat.le_of_ble_eq_true rfl) (c_X4_openError hq) ?_
  exact sw_iret X Y dX4_errorOfOrder_91 (rfl) (rfl)
set_option maxHeartbeats 4000000 in
set_option maxRecDepth 100000 in
theorem c_X4_errorOfOrder_114 {G : sv_G} {M : sv_Mem} {q : Nat} (hw : M 9 4 0 9 = nI q) (hq : q < 3) (hL : M 9 4 0 10 = nI 114) : sv_Ct G M_X4_errorOfOrder 3 [.ref (sv_ad G 4 9 0)] M (some (.int (if (M 9 5 0) (24 + q) = nI 1 then nI 0 else -4))) (M) := by
  refine sv_Ct_of (lo := [some (.ref (sv_ad G 4 9 0))]) (pn_X4) rfl (Nat.le_of_ble_eq_true rfl) rfl (fun K X Y => ?_)
  replace X : sv_X G K cX4_errorOfOrder RX4 1 3 := X
  replace Y : sv_Y G K (some .int) _ _ := Y
  show sw_W G K 1 0 _ _ _
  refine sw_aload_0 X dX4_errorOfOrder_0 ?_
  refine gf_X4_182 X dX4_errorOfOrder_1 ?_
  refine sw_tope hL ?_
  refine sw_lookupV X 83 dX4_errorOfOrder_4 (by decide) rfl (by decide) ?_
  refine sw_aload_0 X dX4_errorOfOrder_83 ?_
  refine sw_aload_0 X dX4_errorOfOrder_84 ?_
  refine gf_X4_179 X dX4_errorOfOrder_85 ?_
  refine sw_tope hw ?_
  refine ca_X4_93 X (by decide) dX4_errorOfOrder_88 (Nat.le_of_ble_eq_true rfl) (c_X4_openError hq) ?_
  exact sw_iret X Y dX4_errorOfOrder_91 (rfl) (rfl)
set_option maxHeartbeats 4000000 in
set_option maxRecDepth 100000 in
theorem c_X4_errorOfOrder_119 {G : sv_G} {M : sv_Mem} {q : Nat} (hw : M 9 4 0 9 = nI q) (hq : q < 3) (hL : M 9 4 0 10 = nI 119) : sv_Ct G M_X4_errorOfOrder 3 [.ref (sv_ad G 4 9 0)] M (some (.int (if (M 9 5 0) (24 + q) = nI 1 then nI 0 else -4))) (M) := by
  refine sv_Ct_of (lo := [some (.ref (sv_ad G 4 9 0))]) (pn_X4) rfl (Nat.le_of_ble_eq_true rfl) rfl (fun K X Y => ?_)
  replace X : sv_X G K cX4_errorOfOrder RX4 1 3 := X
  replace Y : sv_Y G K (some .int) _ _ := Y
  show sw_W G K 1 0 _ _ _
  refine sw_aload_0 X dX4_errorOfOrder_0 ?_
  refine gf_X4_182 X dX4_errorOfOrder_1 ?_
  refine sw_tope hL ?_
  refine sw_lookupV X 83 dX4_errorOfOrder_4 (by decide) rfl (by decide) ?_
  refine sw_aload_0 X dX4_errorOfOrder_83 ?_
  refine sw_aload_0 X dX4_errorOfOrder_84 ?_
  refine gf_X4_179 X dX4_errorOfOrder_85 ?_
  refine sw_tope hw ?_
  refine ca_X4_93 X (by decide) dX4_errorOfOrder_88 (Nat.le_of_ble_eq_true rfl) (c_X4_openError hq) ?_
  exact sw_iret X Y dX4_errorOfOrder_91 (rfl) (rfl)
set_option maxHeartbeats 4000000 in
set_option maxRecDepth 100000 in
theorem c_X4_errorOfOrder_101 {G : sv_G} {M : sv_Mem} {q : Nat} (hw : M 9 4 0 9 = nI q) (hq : q < 3) (hL : M 9 4 0 10 = nI 101) : sv_Ct G M_X4_errorOfOrder 3 [.ref (sv_ad G 4 9 0)] M (some (.int (if (M 9 5 0) (24 + q) = nI 1 then nI 0 else -4))) (M) := by
  refine sv_Ct_of (lo := [some (.ref (sv_ad G 4 9 0))]) (pn_X4) rfl (Nat.le_of_ble_eq_true rfl) rfl (fun K X Y => ?_)
  replace X : sv_X G K cX4_errorOfOrder RX4 1 3 := X
  replace Y : sv_Y G K (some .int) _ _ := Y
  show sw_W G K 1 0 _ _ _
  refine sw_aload_0 X dX4_errorOfOrder_0 ?_
  refine gf_X4_182 X dX4_errorOfOrder_1 ?_
  refine sw_tope hL ?_
  refine sw_lookupV X 83 dX4_errorOfOrder_4 (by decide) rfl (by decide) ?_
  refine sw_aload_0 X dX4_errorOfOrder_83 ?_
  refine sw_aload_0 X dX4_errorOfOrder_84 ?_
  refine gf_X4_179 X dX4_errorOfOrder_85 ?_
  refine sw_tope hw ?_
  refine ca_X4_93 X (by decide) dX4_errorOfOrder_88 (Nat.le_of_ble_eq_true rfl) (c_X4_openError hq) ?_
  exact sw_iret X Y dX4_errorOfOrder_91 (rfl) (rfl)
set_option maxHeartbeats 4000000 in
set_option maxRecDepth 100000 in
theorem c_X4_errorOfOrder_103 {G : sv_G} {M : sv_Mem} {q : Nat} (hw : M 9 4 0 9 = nI q) (hq : q < 3) (hL : M 9 4 0 10 = nI 103) : sv_Ct G M_X4_errorOfOrder 3 [.ref (sv_ad G 4 9 0)] M (some (.int (if (M 9 5 0) (24 + q) = nI 1 then nI 0 else -4))) (M) := by
  refine sv_Ct_of (lo := [some (.ref (sv_ad G 4 9 0))]) (pn_X4) rfl (Nat.le_of_ble_eq_true rfl) rfl (fun K X Y => ?_)
  replace X : sv_X G K cX4_errorOfOrder RX4 1 3 := X
  replace Y : sv_Y G K (some .int) _ _ := Y
  show sw_W G K 1 0 _ _ _
  refine sw_aload_0 X dX4_errorOfOrder_0 ?_
  refine gf_X4_182 X dX4_errorOfOrder_1 ?_
  refine sw_tope hL ?_
  refine sw_lookupV X 83 dX4_errorOfOrder_4 (by decide) rfl (by decide) ?_
  refine sw_aload_0 X dX4_errorOfOrder_83 ?_
  refine sw_aload_0 X dX4_errorOfOrder_84 ?_
  refine gf_X4_179 X dX4_errorOfOrder_85 ?_
  refine sw_tope hw ?_
  refine ca_X4_93 X (by decide) dX4_errorOfOrder_88 (Nat.le_of_ble_eq_true rfl) (c_X4_openError hq) ?_
  exact sw_iret X Y dX4_errorOfOrder_91 (rfl) (rfl)
set_option maxHeartbeats 4000000 in
set_option maxRecDepth 100000 in
theorem c_X4_carryOut_98 {G : sv_G} {M : sv_Mem} {q : Nat}  (hw : M 9 4 0 9 = nI q) (hq : q < 3) (hL : M 9 4 0 10 = nI 98) : sv_Ct G M_X4_carryOut 4 [.ref (sv_ad G 4 9 0)] M (some (.int (bgF (M 9 5 0) q 24 + bgF (M 9 5 0) q 25 + bgF (M 9 5 0) q 26))) (mS M (bgF (M 9 5 0) q)) := by
  refine sv_Ct_of (lo := [some (.ref (sv_ad G 4 9 0))]) (pn_X4) rfl (Nat.le_of_ble_eq_true rfl) rfl (fun K X Y => ?_)
  replace X : sv_X G K cX4_carryOut RX4 1 4 := X
  replace Y : sv_Y G K (some .int) _ _ := Y
  show sw_W G K 1 0 _ _ _
  refine sw_aload_0 X dX4_carryOut_0 ?_
  refine gf_X4_182 X dX4_carryOut_1 ?_
  refine sw_tope hL ?_
  refine sw_tabInV X 108 dX4_carryOut_4 (q := 0) rfl (by decide) (by decide) ?_
  refine sw_aload_0 X dX4_carryOut_108 ?_
  refine sw_aload_0 X dX4_carryOut_109 ?_
  refine gf_X4_179 X dX4_carryOut_110 ?_
  refine sw_tope hw ?_
  refine ca_X4_90 X (by decide) dX4_carryOut_113 (Nat.le_of_ble_eq_true rfl) (c_X4_doBegin hq) ?_
  exact sw_iret X Y dX4_carryOut_116 (rfl) (rfl)
set_option maxHeartbeats 4000000 in
set_option maxRecDepth 100000 in
theorem c_X4_carryOut_99 {G : sv_G} {M : sv_Mem} {q : Nat} {mq : Nat} (hmq : M 9 5 0 (27 + q) = nI mq) (hmq2 : mq ≤ 12) (hw : M 9 4 0 9 = nI q) (hq : q < 3) (hL : M 9 4 0 10 = nI 99) : sv_Ct G M_X4_carryOut 4 [.ref (sv_ad G 4 9 0)] M (some (.int (nI (othR (M 9 5 0) q 0 mq)))) (mS M (cmF (M 9 5 0) q mq)) := by
  refine sv_Ct_of (lo := [some (.ref (sv_ad G 4 9 0))]) (pn_X4) rfl (Nat.le_of_ble_eq_true rfl) rfl (fun K X Y => ?_)
  replace X : sv_X G K cX4_carryOut RX4 1 4 := X
  replace Y : sv_Y G K (some .int) _ _ := Y
  show sw_W G K 1 0 _ _ _
  refine sw_aload_0 X dX4_carryOut_0 ?_
  refine gf_X4_182 X dX4_carryOut_1 ?_
  refine sw_tope hL ?_
  refine sw_tabInV X 117 dX4_carryOut_4 (q := 1) rfl (by decide) (by decide) ?_
  refine sw_aload_0 X dX4_carryOut_117 ?_
  refine sw_aload_0 X dX4_carryOut_118 ?_
  refine gf_X4_179 X dX4_carryOut_119 ?_
  refine sw_tope hw ?_
  refine ca_X4_96 X (by decide) dX4_carryOut_122 (Nat.le_of_ble_eq_true rfl) (c_X4_doCommit hq hmq hmq2) ?_
  exact sw_iret X Y dX4_carryOut_125 (rfl) (rfl)
set_option maxHeartbeats 4000000 in
set_option maxRecDepth 100000 in
theorem c_X4_carryOut_100 {G : sv_G} {M : sv_Mem} {q : Nat} {mq p : Nat} {nm : Int32} (hmq : M 9 5 0 (27 + q) = nI mq) (hmq2 : mq ≤ 12) (hp : nmR (M 9 5 0) q nm mq = nI p) (hp2 : p < mq) (ho : M 9 4 0 11 = nm) (hw : M 9 4 0 9 = nI q) (hq : q < 3) (hL : M 9 4 0 10 = nI 100) : sv_Ct G M_X4_carryOut 4 [.ref (sv_ad G 4 9 0)] M (some (.int (nI (mq - p)))) (mS M (rlF (M 9 5 0) q p mq)) := by
  refine sv_Ct_of (lo := [some (.ref (sv_ad G 4 9 0))]) (pn_X4) rfl (Nat.le_of_ble_eq_true rfl) rfl (fun K X Y => ?_)
  replace X : sv_X G K cX4_carryOut RX4 1 4 := X
  replace Y : sv_Y G K (some .int) _ _ := Y
  show sw_W G K 1 0 _ _ _
  refine sw_aload_0 X dX4_carryOut_0 ?_
  refine gf_X4_182 X dX4_carryOut_1 ?_
  refine sw_tope hL ?_
  refine sw_tabInV X 161 dX4_carryOut_4 (q := 2) rfl (by decide) (by decide) ?_
  refine sw_aload_0 X dX4_carryOut_161 ?_
  refine sw_aload_0 X dX4_carryOut_162 ?_
  refine gf_X4_179 X dX4_carryOut_163 ?_
  refine sw_tope hw ?_
  refine sw_aload_0 X dX4_carryOut_166 ?_
  refine gf_X4_173 X dX4_carryOut_167 ?_
  refine sw_tope ho ?_
  refine ca_X4_120 X (by decide) dX4_carryOut_170 (Nat.le_of_ble_eq_true rfl) (c_X4_doRelease hq hmq hmq2 hp hp2) ?_
  exact sw_iret X Y dX4_carryOut_173 (rfl) (rfl)
set_option maxHeartbeats 4000000 in
set_option maxRecDepth 100000 in
theorem c_X4_carryOut_101 {G : sv_G} {M : sv_Mem} {q : Nat} {mq k : Nat} (hmq : M 9 5 0 (27 + q) = nI mq) (hmq2 : mq ≤ 12) (hk : k < 16) (ho : M 9 4 0 11 = nI k) (hw : M 9 4 0 9 = nI q) (hq : q < 3) (hL : M 9 4 0 10 = nI 101) : sv_Ct G M_X4_carryOut 4 [.ref (sv_ad G 4 9 0)] M (some (.int (if busyR (M 9 5 0) q k (nI 2) then -6 else outs ((M 9 5 0) (8 + k))))) (mS (mN M (dwN (M 9 5 0) (fg1 (M 9 9 0) 0) q k)) (dwS (M 9 5 0) (fg1 (M 9 9 0) 0) q k mq (-1))) := by
  refine sv_Ct_of (lo := [some (.ref (sv_ad G 4 9 0))]) (pn_X4) rfl (Nat.le_of_ble_eq_true rfl) rfl (fun K X Y => ?_)
  replace X : sv_X G K cX4_carryOut RX4 1 4 := X
  replace Y : sv_Y G K (some .int) _ _ := Y
  show sw_W G K 1 0 _ _ _
  refine sw_aload_0 X dX4_carryOut_0 ?_
  refine gf_X4_182 X dX4_carryOut_1 ?_
  refine sw_tope hL ?_
  refine sw_tabInV X 191 dX4_carryOut_4 (q := 3) rfl (by decide) (by decide) ?_
  refine sw_aload_0 X dX4_carryOut_191 ?_
  refine sw_aload_0 X dX4_carryOut_192 ?_
  refine gf_X4_179 X dX4_carryOut_193 ?_
  refine sw_tope hw ?_
  refine sw_aload_0 X dX4_carryOut_196 ?_
  refine gf_X4_173 X dX4_carryOut_197 ?_
  refine sw_tope ho ?_
  refine sw_iconst X (-1) dX4_carryOut_200 (by decide) ?_
  refine ca_X4_153 X (by decide) dX4_carryOut_201 (Nat.le_of_ble_eq_true rfl) (c_X4_doWrite hq hk hmq hmq2) ?_
  exact sw_iret X Y dX4_carryOut_204 (rfl) (rfl)
set_option maxHeartbeats 4000000 in
set_option maxRecDepth 100000 in
theorem c_X4_carryOut_103 {G : sv_G} {M : sv_Mem} {q : Nat} {mq k : Nat} (hmq : M 9 5 0 (27 + q) = nI mq) (hmq2 : mq ≤ 12) (hk : k < 16) (ho : M 9 4 0 11 = nI k) (hw : M 9 4 0 9 = nI q) (hq : q < 3) (hL : M 9 4 0 10 = nI 103) : sv_Ct G M_X4_carryOut 4 [.ref (sv_ad G 4 9 0)] M (some (.int (if busyR (M 9 5 0) q k (nI 1) then -6 else outs ((M 9 5 0) (8 + k))))) (mS (mN M (drN (M 9 5 0) (fg1 (M 9 9 0) 0) q k)) (drS (M 9 5 0) (fg1 (M 9 9 0) 0) q k mq)) := by
  refine sv_Ct_of (lo := [some (.ref (sv_ad G 4 9 0))]) (pn_X4) rfl (Nat.le_of_ble_eq_true rfl) rfl (fun K X Y => ?_)
  replace X : sv_X G K cX4_carryOut RX4 1 4 := X
  replace Y : sv_Y G K (some .int) _ _ := Y
  show sw_W G K 1 0 _ _ _
  refine sw_aload_0 X dX4_carryOut_0 ?_
  refine gf_X4_182 X dX4_carryOut_1 ?_
  refine sw_tope hL ?_
  refine sw_tabInV X 205 dX4_carryOut_4 (q := 5) rfl (by decide) (by decide) ?_
  refine sw_aload_0 X dX4_carryOut_205 ?_
  refine sw_aload_0 X dX4_carryOut_206 ?_
  refine gf_X4_179 X dX4_carryOut_207 ?_
  refine sw_tope hw ?_
  refine sw_aload_0 X dX4_carryOut_210 ?_
  refine gf_X4_173 X dX4_carryOut_211 ?_
  refine sw_tope ho ?_
  refine ca_X4_147 X (by decide) dX4_carryOut_214 (Nat.le_of_ble_eq_true rfl) (c_X4_doRead hq hk hmq hmq2) ?_
  exact sw_iret X Y dX4_carryOut_217 (rfl) (rfl)
set_option maxHeartbeats 4000000 in
set_option maxRecDepth 100000 in
theorem c_X4_carryOut_114 {G : sv_G} {M : sv_Mem} {q : Nat} {mq : Nat} (hmq : M 9 5 0 (27 + q) = nI mq) (hmq2 : mq ≤ 12) (hw : M 9 4 0 9 = nI q) (hq : q < 3) (hL : M 9 4 0 10 = nI 114) : sv_Ct G M_X4_carryOut 4 [.ref (sv_ad G 4 9 0)] M (some (.int (nI (othR (M 9 5 0) q 0 mq)))) (mS M (rbF (M 9 5 0) q mq)) := by
  refine sv_Ct_of (lo := [some (.ref (sv_ad G 4 9 0))]) (pn_X4) rfl (Nat.le_of_ble_eq_true rfl) rfl (fun K X Y => ?_)
  replace X : sv_X G K cX4_carryOut RX4 1 4 := X
  replace Y : sv_Y G K (some .int) _ _ := Y
  show sw_W G K 1 0 _ _ _
  refine sw_aload_0 X dX4_carryOut_0 ?_
  refine gf_X4_182 X dX4_carryOut_1 ?_
  refine sw_tope hL ?_
  refine sw_tabInV X 126 dX4_carryOut_4 (q := 16) rfl (by decide) (by decide) ?_
  refine sw_aload_0 X dX4_carryOut_126 ?_
  refine sw_aload_0 X dX4_carryOut_127 ?_
  refine gf_X4_179 X dX4_carryOut_128 ?_
  refine sw_tope hw ?_
  refine ca_X4_99 X (by decide) dX4_carryOut_131 (Nat.le_of_ble_eq_true rfl) (c_X4_doRollback hq hmq hmq2) ?_
  exact sw_iret X Y dX4_carryOut_134 (rfl) (rfl)
set_option maxHeartbeats 4000000 in
set_option maxRecDepth 100000 in
theorem c_X4_carryOut_115 {G : sv_G} {M : sv_Mem} {q : Nat} {mq : Nat} {nm : Int32} (hmq : M 9 5 0 (27 + q) = nI mq) (hmq2 : mq ≤ 12) (hmq3 : mq ≠ 12) (ho : M 9 4 0 11 = nm) (hw : M 9 4 0 9 = nI q) (hq : q < 3) (hL : M 9 4 0 10 = nI 115) : sv_Ct G M_X4_carryOut 4 [.ref (sv_ad G 4 9 0)] M (some (.int (nI mq))) (mS M (spF (M 9 5 0) q mq nm)) := by
  refine sv_Ct_of (lo := [some (.ref (sv_ad G 4 9 0))]) (pn_X4) rfl (Nat.le_of_ble_eq_true rfl) rfl (fun K X Y => ?_)
  replace X : sv_X G K cX4_carryOut RX4 1 4 := X
  replace Y : sv_Y G K (some .int) _ _ := Y
  show sw_W G K 1 0 _ _ _
  refine sw_aload_0 X dX4_carryOut_0 ?_
  refine gf_X4_182 X dX4_carryOut_1 ?_
  refine sw_tope hL ?_
  refine sw_tabInV X 135 dX4_carryOut_4 (q := 17) rfl (by decide) (by decide) ?_
  refine sw_aload_0 X dX4_carryOut_135 ?_
  refine sw_aload_0 X dX4_carryOut_136 ?_
  refine gf_X4_179 X dX4_carryOut_137 ?_
  refine sw_tope hw ?_
  refine sw_aload_0 X dX4_carryOut_140 ?_
  refine gf_X4_173 X dX4_carryOut_141 ?_
  refine sw_tope ho ?_
  refine ca_X4_111 X (by decide) dX4_carryOut_144 (Nat.le_of_ble_eq_true rfl) (c_X4_doSavepoint hq hmq hmq2 hmq3) ?_
  exact sw_iret X Y dX4_carryOut_147 (rfl) (rfl)
set_option maxHeartbeats 4000000 in
set_option maxRecDepth 100000 in
theorem c_X4_carryOut_117 {G : sv_G} {M : sv_Mem} {q : Nat} {mq p : Nat} {nm : Int32} (hmq : M 9 5 0 (27 + q) = nI mq) (hmq2 : mq ≤ 12) (hp : nmR (M 9 5 0) q nm mq = nI p) (hp2 : p < mq) (ho : M 9 4 0 11 = nm) (hw : M 9 4 0 9 = nI q) (hq : q < 3) (hL : M 9 4 0 10 = nI 117) : sv_Ct G M_X4_carryOut 4 [.ref (sv_ad G 4 9 0)] M (some (.int (nI (othR (M 9 5 0) q (p + 1) mq)))) (mS M (utF (M 9 5 0) q (p + 1) mq)) := by
  refine sv_Ct_of (lo := [some (.ref (sv_ad G 4 9 0))]) (pn_X4) rfl (Nat.le_of_ble_eq_true rfl) rfl (fun K X Y => ?_)
  replace X : sv_X G K cX4_carryOut RX4 1 4 := X
  replace Y : sv_Y G K (some .int) _ _ := Y
  show sw_W G K 1 0 _ _ _
  refine sw_aload_0 X dX4_carryOut_0 ?_
  refine gf_X4_182 X dX4_carryOut_1 ?_
  refine sw_tope hL ?_
  refine sw_tabInV X 148 dX4_carryOut_4 (q := 19) rfl (by decide) (by decide) ?_
  refine sw_aload_0 X dX4_carryOut_148 ?_
  refine sw_aload_0 X dX4_carryOut_149 ?_
  refine gf_X4_179 X dX4_carryOut_150 ?_
  refine sw_tope hw ?_
  refine sw_aload_0 X dX4_carryOut_153 ?_
  refine gf_X4_173 X dX4_carryOut_154 ?_
  refine sw_tope ho ?_
  refine ca_X4_117 X (by decide) dX4_carryOut_157 (Nat.le_of_ble_eq_true rfl) (c_X4_doUndoTo hq hmq hmq2 hp hp2) ?_
  exact sw_iret X Y dX4_carryOut_160 (rfl) (rfl)
set_option maxHeartbeats 4000000 in
set_option maxRecDepth 100000 in
theorem c_X4_carryOut_119 {G : sv_G} {M : sv_Mem} {q : Nat} {mq k : Nat} {v : Int32} (hmq : M 9 5 0 (27 + q) = nI mq) (hmq2 : mq ≤ 12) (hk : k < 16) (ho : M 9 4 0 11 = nI k) (hv : M 9 4 0 12 = v) (hw : M 9 4 0 9 = nI q) (hq : q < 3) (hL : M 9 4 0 10 = nI 119) : sv_Ct G M_X4_carryOut 4 [.ref (sv_ad G 4 9 0)] M (some (.int (if busyR (M 9 5 0) q k (nI 2) then -6 else outs ((M 9 5 0) (8 + k))))) (mS (mN M (dwN (M 9 5 0) (fg1 (M 9 9 0) 0) q k)) (dwS (M 9 5 0) (fg1 (M 9 9 0) 0) q k mq v)) := by
  refine sv_Ct_of (lo := [some (.ref (sv_ad G 4 9 0))]) (pn_X4) rfl (Nat.le_of_ble_eq_true rfl) rfl (fun K X Y => ?_)
  replace X : sv_X G K cX4_carryOut RX4 1 4 := X
  replace Y : sv_Y G K (some .int) _ _ := Y
  show sw_W G K 1 0 _ _ _
  refine sw_aload_0 X dX4_carryOut_0 ?_
  refine gf_X4_182 X dX4_carryOut_1 ?_
  refine sw_tope hL ?_
  refine sw_tabInV X 174 dX4_carryOut_4 (q := 21) rfl (by decide) (by decide) ?_
  refine sw_aload_0 X dX4_carryOut_174 ?_
  refine sw_aload_0 X dX4_carryOut_175 ?_
  refine gf_X4_179 X dX4_carryOut_176 ?_
  refine sw_tope hw ?_
  refine sw_aload_0 X dX4_carryOut_179 ?_
  refine gf_X4_173 X dX4_carryOut_180 ?_
  refine sw_tope ho ?_
  refine sw_aload_0 X dX4_carryOut_183 ?_
  refine gf_X4_195 X dX4_carryOut_184 ?_
  refine sw_tope hv ?_
  refine ca_X4_153 X (by decide) dX4_carryOut_187 (Nat.le_of_ble_eq_true rfl) (c_X4_doWrite hq hk hmq hmq2) ?_
  exact sw_iret X Y dX4_carryOut_190 (rfl) (rfl)
theorem qp_vals : (Jvm.FP.Core.b64.tails = 2 ^ 52 ∧ Jvm.FP.Core.b64.exps = 2048 ∧ Jvm.FP.Core.b64.p = 53) ∧ (Jvm.FP.Core.b64.qmax - Jvm.FP.Core.b64.qmin).toNat + 1 ≤ 2046 := by decide +kernel
/-- a datum that is no NaN and that the format holds -/
def qGood : Jvm.FP.Core.Datum → Prop
  | .nan => False
  | .inf _ => True
  | .fin _ c q => c < 2 ^ 53 ∧ q ≤ Jvm.FP.Core.b64.qmax
theorem qGood_enc {d : Jvm.FP.Core.Datum} (h : qGood d) : Jvm.FP.Core.encode Jvm.FP.Core.b64 d < 2 ^ 64 ∧ Jvm.FP.Core.encode Jvm.FP.Core.b64 d % 2 ^ 63 ≤ 0x7ff0000000000000 := by
  obtain ⟨⟨h1, h2, h3⟩, h4⟩ := qp_vals
  match d, h with
  | .inf s, _ =>
    simp only [Jvm.FP.Core.encode, Jvm.FP.Core.assemble, h1, h2]
    cases s <;> decide
  | .fin s c q, h =>
    obtain ⟨hc, hq⟩ := h
    simp only [Jvm.FP.Core.encode, Jvm.FP.Core.assemble, h1, h2]
    have hs : s.toNat ≤ 1 := by cases s <;> decide
    split <;> rename_i z
    · constructor <;> (cases s <;> simp only [Bool.toNat_true, Bool.toNat_false] <;> omega)
    · have h5 : (q - Jvm.FP.Core.b64.qmin).toNat + 1 ≤ 2046 := by omega
      generalize (q - Jvm.FP.Core.b64.qmin).toNat + 1 = e at h5
      constructor <;> (cases s <;> simp only [Bool.toNat_true, Bool.toNat_false] <;> omega)
theorem qGood_settle (s : Bool) (c : Nat) (q : Int) : qGood (Jvm.FP.Core.settle Jvm.FP.Core.b64 s c q) := by
  obtain ⟨⟨h1, h2, h3⟩, h4⟩ := qp_vals
  unfold Jvm.FP.Core.settle Jvm.FP.Core.bound
  rw [h3]
  split <;> split <;> rename_i a b
  · exact ⟨a, b⟩
  · trivial
  · exact ⟨by rw [h1]; decide, b⟩
  · trivial
theorem qGood_ratio (s : Bool) (num den : Nat) (e : Int) : qGood (Jvm.FP.Core.roundRatio Jvm.FP.Core.b64 s num den e) := by
  unfold Jvm.FP.Core.roundRatio
  split
  · exact ⟨by decide, by decide +kernel⟩
  · exact qGood_settle _ _ _
theorem qDec_nan {n : Nat} (h : n < 2 ^ 64) (h2 : n % 2 ^ 63 ≤ 0x7ff0000000000000) : Jvm.FP.Core.decode Jvm.FP.Core.b64 n ≠ .nan := by
  obtain ⟨⟨h1, h3, -⟩, -⟩ := qp_vals
  unfold Jvm.FP.Core.decode Jvm.FP.Core.fieldE Jvm.FP.Core.fieldT
  rw [h1, h3]
  split <;> rename_i z
  · rw [if_pos (by omega)]
    exact fun e => by cases e
  · split <;> exact fun e => by cases e
theorem qN64 {d : Jvm.FP.Core.Datum} (h : qGood d) : vf_n64 (.ofNat (Jvm.FP.Core.encode Jvm.FP.Core.b64 d)) := by
  obtain ⟨h1, h2⟩ := qGood_enc h
  unfold vf_n64
  rw [UInt64.le_iff_toNat_le, UInt64.toNat_and]
  rw [show UInt64.toNat 0x7fffffffffffffff = 2 ^ 63 - 1 from rfl, Nat.and_two_pow_sub_one_eq_mod]
  rw [show (UInt64.ofNat (Jvm.FP.Core.encode Jvm.FP.Core.b64 d)).toNat = Jvm.FP.Core.encode Jvm.FP.Core.b64 d from UInt64.toNat_ofNat_of_lt h1]
  exact h2
theorem q_i2d (x : Int32) : Jvm.FP.Core.decode Jvm.FP.Core.b64 (FP.i2d x).toNat ≠ .nan := by
  have hg : qGood (Jvm.FP.Core.round Jvm.FP.Core.b64 (Jvm.FP.Core.ofInt x.toInt)) := qGood_ratio _ _ _ _
  obtain ⟨h1, h2⟩ := qGood_enc hg
  have e : (FP.i2d x).toNat = Jvm.FP.Core.encode Jvm.FP.Core.b64 (Jvm.FP.Core.round Jvm.FP.Core.b64 (Jvm.FP.Core.ofInt x.toInt)) := UInt64.toNat_ofNat_of_lt h1
  rw [e]
  exact qDec_nan h1 h2
def qFin (n : Nat) : Bool := match Jvm.FP.Core.decode Jvm.FP.Core.b64 (FP.i2d (nI n)).toNat with
  | .fin _ c _ => decide (c ≠ 0)
  | _ => false
theorem qFin_all : ∀ n, n < 17 → n ≠ 0 → qFin n = true := by decide +kernel
/-- a quotient of an int by 1 to 16 is no NaN -/
theorem q_mean (x : Int32) {n : Nat} (h0 : n ≠ 0) (hn : n ≤ 16) : vf_n64 (FP.ddiv (FP.i2d x) (FP.i2d (nI n))) := by
  refine qN64 (d := Jvm.FP.Core.quotient Jvm.FP.Core.b64 (Jvm.FP.Core.decode Jvm.FP.Core.b64 (FP.i2d x).toNat) (Jvm.FP.Core.decode Jvm.FP.Core.b64 (FP.i2d (nI n)).toNat)) ?_
  have h1 := q_i2d x
  have h2 := qFin_all n (by omega) h0
  unfold qFin at h2
  cases hd : Jvm.FP.Core.decode Jvm.FP.Core.b64 (FP.i2d (nI n)).toNat with
  | nan => rw [hd] at h2; cases h2
  | inf s => rw [hd] at h2; cases h2
  | fin s c q =>
    rw [hd] at h2
    have h3 := of_decide_eq_true h2
    cases hx : Jvm.FP.Core.decode Jvm.FP.Core.b64 (FP.i2d x).toNat with
    | nan => exact absurd hx h1
    | inf s2 => trivial
    | fin s2 c2 q2 =>
      unfold Jvm.FP.Core.quotient
      simp only []
      rw [if_neg h3]
      exact qGood_ratio _ _ _ _

set_option maxHeartbeats 4000000 in
set_option maxRecDepth 100000 in
theorem c_X4_mean {G : sv_G} {M : sv_Mem}  : sv_Ct G M_X4_mean 1 [.ref (sv_ad G 4 9 0)] M (some (.double (if vlR (M 9 5 0) = 0 then FP.dconst0 else FP.ddiv (FP.i2d (smR (M 9 5 0) 16)) (FP.i2d (nI (vlR (M 9 5 0))))))) (M) := by
  refine sv_Ct_of (lo := [some (.ref (sv_ad G 4 9 0)), none, none]) (pn_X4) rfl (Nat.le_of_ble_eq_true rfl) rfl (fun K X Y => ?_)
  replace X : sv_X G K cX4_mean RX4 3 1 := X
  replace Y : sv_Y G K (some .double) _ _ := Y
  show sw_W G K 3 0 _ _ _
  have L : ∀ r, r ≤ 16 → (fun r => ∀ x, x = smR (M 9 5 0) r → sw_W G K 3 4 [some (.ref (sv_ad G 4 9 0)), some (.int x), some (.int (nI r))] [] M) r := by
    refine up_ind (N := 16) (P := fun r => ∀ x, x = smR (M 9 5 0) r → sw_W G K 3 4 [some (.ref (sv_ad G 4 9 0)), some (.int x), some (.int (nI r))] [] M) ?_
    intro r hr ih x hx
    refine sw_iload_2 X dX4_mean_4 ?_
    refine sw_bipush X (nI 16) dX4_mean_5 (by decide) ?_
    refine sw_icmp_ge X 45 dX4_mean_7 (by decide) (fun h7 => ?_) (fun h7 => ?_)
    ·
      have e : r = 16 := by have := (nI_leI (by omega) (by omega)).mp h7; omega
      subst e
      refine sw_aload_0 X dX4_mean_45 ?_
      refine ca_X4_219 X (by decide) dX4_mean_46 (Nat.le_of_ble_eq_true rfl) (c_X4_valued) ?_
      refine sw_if_ne X 56 dX4_mean_49 (by decide) (fun h49 => ?_) (fun h49 => ?_)
      ·
        have hv0 : vlR (M 9 5 0) ≠ 0 := fun z => h49 (by rw [z]; rfl)
        refine sw_iload_1 X dX4_mean_56 ?_
        refine sw_i2d X dX4_mean_57 ?_
        refine sw_aload_0 X dX4_mean_58 ?_
        refine ca_X4_219 X (by decide) dX4_mean_59 (Nat.le_of_ble_eq_true rfl) (c_X4_valued) ?_
        refine sw_i2d X dX4_mean_62 ?_
        refine sw_ddiv X (by rw [hx]; exact q_mean _ hv0 (cnt_le _ _)) dX4_mean_63 ?_
        exact sw_dret X Y dX4_mean_64 (by first | (rw [if_pos hv0]; done) | (rw [if_neg hv0, hx]; done)) (rfl)
      ·
        have hv0 : vlR (M 9 5 0) = 0 := (nI_eq (b := 0) (by have : vlR (M 9 5 0) ≤ 16 := cnt_le _ _; omega) (by omega)).mp (by first | exact h49 | exact Decidable.of_not_not h49)
        refine sw_dconst0 X dX4_mean_52 ?_
        refine sw_goto X 64 dX4_mean_53 (by decide) ?_
        exact sw_dret X Y dX4_mean_64 (by first | (rw [if_pos hv0]; done) | (rw [if_neg hv0, hx]; done)) (rfl)
    ·
      have hr3 : r < 16 := by have := mt (nI_leI (by omega) (by omega)).mpr h7; omega
      refine sw_iload_1 X dX4_mean_10 ?_
      refine sw_aload_0 X dX4_mean_11 ?_
      refine gf_X4_7 X dX4_mean_12 ?_
      refine sw_bipush X (nI 8) dX4_mean_15 (by decide) ?_
      refine sw_iload_2 X dX4_mean_17 ?_
      refine sw_iadd X dX4_mean_18 ?_
      try refine sw_tope (nI_add _ _) ?_
      refine ia_5 X rfl (by omega) dX4_mean_19 ?_
      refine sw_iconst X (-1) dX4_mean_20 (by decide) ?_
      refine sw_icmp_ne X 28 dX4_mean_21 (by decide) (fun h21 => ?_) (fun h21 => ?_)
      ·
        have hx2 : x + M 9 5 0 (8 + r) = smR (M 9 5 0) (r + 1) := (congrArg (fun z => z + M 9 5 0 (8 + r)) hx).trans (congrArg (fun z => smR (M 9 5 0) r + z) (if_neg h21).symm)
        refine sw_aload_0 X dX4_mean_28 ?_
        refine gf_X4_7 X dX4_mean_29 ?_
        refine sw_bipush X (nI 8) dX4_mean_32 (by decide) ?_
        refine sw_iload_2 X dX4_mean_34 ?_
        refine sw_iadd X dX4_mean_35 ?_
        try refine sw_tope (nI_add _ _) ?_
        refine ia_5 X rfl (by omega) dX4_mean_36 ?_
        refine sw_iadd X dX4_mean_37 ?_
        refine sw_istore_1 X dX4_mean_38 trivial ?_
        first | refine sw_inc1_2 X dX4_mean_39 trivial ?_ | refine sw_iinc_2 X _ dX4_mean_39 rfl trivial ?_
        refine sw_goto X 4 dX4_mean_42 (by decide) ?_
        exact ih (r + 1) (by omega) (by omega) _ hx2
      ·
        have hx2 : x + nI 0 = smR (M 9 5 0) (r + 1) := (congrArg (fun z => z + nI 0) hx).trans (congrArg (fun z => smR (M 9 5 0) r + z) (if_pos (by first | exact h21 | exact Decidable.of_not_not h21)).symm)
        refine sw_iconst X (nI 0) dX4_mean_24 (by decide) ?_
        refine sw_goto X 37 dX4_mean_25 (by decide) ?_
        refine sw_iadd X dX4_mean_37 ?_
        refine sw_istore_1 X dX4_mean_38 trivial ?_
        first | refine sw_inc1_2 X dX4_mean_39 trivial ?_ | refine sw_iinc_2 X _ dX4_mean_39 rfl trivial ?_
        refine sw_goto X 4 dX4_mean_42 (by decide) ?_
        exact ih (r + 1) (by omega) (by omega) _ hx2
  refine sw_iconst X (nI 0) dX4_mean_0 (by decide) ?_
  refine sw_istore_1 X dX4_mean_1 trivial ?_
  refine sw_iconst X (nI 0) dX4_mean_2 (by decide) ?_
  refine sw_istore_2 X dX4_mean_3 trivial ?_
  exact L 0 (by omega) _ rfl
