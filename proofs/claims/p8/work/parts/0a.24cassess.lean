-- BorderDesk$Assessor.greatestRemainder(I)I
def kt_A_greatestRemainder_33 (rt : Option wq_V → wq_W → Prop) (xt : Nat → wq_W → Prop) (K : Nat → wq_T) : wq_T := (wq_iload 2 (wq_ireturn 0 0 rt))
def kt_A_greatestRemainder_27 (rt : Option wq_V → wq_W → Prop) (xt : Nat → wq_W → Prop) (K : Nat → wq_T) : wq_T := (wq_iinc 3 (nI 1) (wq_can [0, 1, 2, 3] (K 4)))
def kh_A_greatestRemainder_4 (rt : Option wq_V → wq_W → Prop) (xt : Nat → wq_W → Prop) (K : Nat → wq_T) : wq_T := (wq_iload 3 (wq_iload 1 (wq_f2 (fun x y => y ≤ x) (kt_A_greatestRemainder_33 rt xt K) (wq_aload 0 (wq_get 6 11 (wq_iload 3 (wq_lald (wq_aload 0 (wq_get 6 11 (wq_iload 2 (wq_lald (wq_fl (fun x y => x ≤ y) (kt_A_greatestRemainder_27 rt xt K) (wq_iload 3 (wq_istore 2 (kt_A_greatestRemainder_27 rt xt K)))))))))))))))
def kt_A_greatestRemainder_0 (rt : Option wq_V → wq_W → Prop) (xt : Nat → wq_W → Prop) (K : Nat → wq_T) : wq_T := (wq_iconst (nI 0) (wq_istore 2 (wq_iconst (nI 1) (wq_istore 3 (wq_can [0, 1, 2, 3] (K 4))))))
def ku_A_greatestRemainder (rt : Option wq_V → wq_W → Prop) (xt : Nat → wq_W → Prop) : Nat → Nat → wq_T
  | 0, _ => fun _ _ _ _ _ => False
  | n + 1, pc => cond (Nat.beq pc 4) (kh_A_greatestRemainder_4 rt xt (ku_A_greatestRemainder rt xt n)) (fun _ _ _ _ _ => False)
def ks_A_greatestRemainder : wq_S := wq_sp 4 (fun rt xt => kt_A_greatestRemainder_0 rt xt (ku_A_greatestRemainder rt xt 1000000000000))
-- BorderDesk$Assessor.findWeights(I[I)J
def kt_A_findWeights_66 (rt : Option wq_V → wq_W → Prop) (xt : Nat → wq_W → Prop) (K : Nat → wq_T) : wq_T := (wq_iconst (nI 0) (wq_istore 6 (wq_can [0, 3, 6] (K 69))))
def kt_A_findWeights_56 (rt : Option wq_V → wq_W → Prop) (xt : Nat → wq_W → Prop) (K : Nat → wq_T) : wq_T := (wq_lload 4 (wq_lconst (0 : Int64) (wq_fl (fun x y => x ≤ y) (kt_A_findWeights_66 rt xt K) (wq_lload 4 (wq_lreturn 0 0 rt)))))
def kh_A_findWeights_16 (rt : Option wq_V → wq_W → Prop) (xt : Nat → wq_W → Prop) (K : Nat → wq_T) : wq_T := (wq_iload 6 (wq_iload 3 (wq_f2 (fun x y => y ≤ x) (kt_A_findWeights_56 rt xt K) (wq_aload 0 (wq_get 6 10 (wq_iload 6 (wq_aload 2 (wq_iload 1 (wq_iload 6 (wq_call ks_D_rowOf 2 0 0 0 0 (wq_xout 0 0 xt) (wq_iald (wq_i2l (wq_last (wq_lload 4 (wq_aload 0 (wq_get 6 10 (wq_iload 6 (wq_lald (wq_l2 (fun x y => x + y) (wq_lstore 4 (wq_iinc 6 (nI 1) (wq_can [0, 1, 2, 3, 4, 6] (K 16)))))))))))))))))))))))
def kt_A_findWeights_89 (rt : Option wq_V → wq_W → Prop) (xt : Nat → wq_W → Prop) (K : Nat → wq_T) : wq_T := (wq_iload 3 (wq_i2l (wq_lreturn 0 0 rt)))
def kh_A_findWeights_69 (rt : Option wq_V → wq_W → Prop) (xt : Nat → wq_W → Prop) (K : Nat → wq_T) : wq_T := (wq_iload 6 (wq_iload 3 (wq_f2 (fun x y => y ≤ x) (kt_A_findWeights_89 rt xt K) (wq_aload 0 (wq_get 6 10 (wq_iload 6 (wq_lconst (1 : Int64) (wq_last (wq_iinc 6 (nI 1) (wq_can [0, 3, 6] (K 69)))))))))))
def kt_A_findWeights_0 (rt : Option wq_V → wq_W → Prop) (xt : Nat → wq_W → Prop) (K : Nat → wq_T) : wq_T := (wq_aload 0 (wq_get 6 3 (wq_get 5 3 (wq_iload 1 (wq_iald (wq_istore 3 (wq_lconst (0 : Int64) (wq_lstore 4 (wq_iconst (nI 0) (wq_istore 6 (wq_can [0, 1, 2, 3, 4, 6] (K 16))))))))))))
def ku_A_findWeights (rt : Option wq_V → wq_W → Prop) (xt : Nat → wq_W → Prop) : Nat → Nat → wq_T
  | 0, _ => fun _ _ _ _ _ => False
  | n + 1, pc => cond (Nat.beq pc 16) (kh_A_findWeights_16 rt xt (ku_A_findWeights rt xt n)) (cond (Nat.beq pc 69) (kh_A_findWeights_69 rt xt (ku_A_findWeights rt xt n)) (fun _ _ _ _ _ => False))
def ks_A_findWeights : wq_S := wq_sp 7 (fun rt xt => kt_A_findWeights_0 rt xt (ku_A_findWeights rt xt 1000000000000))
-- BorderDesk$Assessor.spread(II[I)V
def kt_A_spread_109 (rt : Option wq_V → wq_W → Prop) (xt : Nat → wq_W → Prop) (K : Nat → wq_T) : wq_T := (wq_iconst (nI 0) (wq_istore 11 (wq_can [0, 4, 9, 11] (K 112))))
def kh_A_spread_40 (rt : Option wq_V → wq_W → Prop) (xt : Nat → wq_W → Prop) (K : Nat → wq_T) : wq_T := (wq_iload 11 (wq_iload 4 (wq_f2 (fun x y => y ≤ x) (kt_A_spread_109 rt xt K) (wq_lload 7 (wq_lconst (0 : Int64) (wq_fl (fun x y => x ≤ y) (kt_A_spread_109 rt xt K) (wq_lload 5 (wq_aload 0 (wq_get 6 10 (wq_iload 11 (wq_lald (wq_l2 (fun x y => x * y) (wq_lstore 12 (wq_aload 0 (wq_get 6 6 (wq_iload 11 (wq_dup2 (wq_lald (wq_lload 12 (wq_lload 7 (wq_l2d (fun x y => x / y) (wq_l2 (fun x y => x + y) (wq_last (wq_lload 9 (wq_lload 12 (wq_lload 7 (wq_l2d (fun x y => x / y) (wq_l2 (fun x y => x - y) (wq_lstore 9 (wq_aload 0 (wq_get 6 11 (wq_iload 11 (wq_lload 12 (wq_lload 7 (wq_l2d (fun x y => x - x / y * y) (wq_last (wq_iinc 11 (nI 1) (wq_can [0, 4, 5, 7, 9, 11] (K 40)))))))))))))))))))))))))))))))))))))))
def kt_A_spread_163 (rt : Option wq_V → wq_W → Prop) (xt : Nat → wq_W → Prop) (K : Nat → wq_T) : wq_T := (wq_vreturn 0 0 rt)
def kh_A_spread_112 (rt : Option wq_V → wq_W → Prop) (xt : Nat → wq_W → Prop) (K : Nat → wq_T) : wq_T := (wq_iload 11 (wq_iload 4 (wq_f2 (fun x y => y ≤ x) (kt_A_spread_163 rt xt K) (wq_iload 11 (wq_i2l (wq_lload 9 (wq_fl (fun x y => y ≤ x) (kt_A_spread_163 rt xt K) (wq_aload 0 (wq_iload 4 (wq_call (wq_rv 6 ks_A_greatestRemainder) 2 0 0 0 0 (wq_xout 0 0 xt) (wq_istore 12 (wq_aload 0 (wq_get 6 6 (wq_iload 12 (wq_dup2 (wq_lald (wq_lconst (1 : Int64) (wq_l2 (fun x y => x + y) (wq_last (wq_aload 0 (wq_get 6 11 (wq_iload 12 (wq_lconst (-1) (wq_last (wq_iinc 11 (nI 1) (wq_can [0, 4, 9, 11] (K 112)))))))))))))))))))))))))))
def kt_A_spread_0 (rt : Option wq_V → wq_W → Prop) (xt : Nat → wq_W → Prop) (K : Nat → wq_T) : wq_T := (wq_aload 0 (wq_get 6 3 (wq_get 5 3 (wq_iload 1 (wq_iald (wq_istore 4 (wq_aload 0 (wq_get 6 3 (wq_get 5 4 (wq_iload 1 (wq_aald (wq_iload 2 (wq_iald (wq_i2l (wq_lstore 5 (wq_aload 0 (wq_iload 1 (wq_aload 3 (wq_call (wq_rv 6 ks_A_findWeights) 3 0 0 0 0 (wq_xout 0 0 xt) (wq_lstore 7 (wq_lload 5 (wq_lstore 9 (wq_iconst (nI 0) (wq_istore 11 (wq_can [0, 4, 5, 7, 9, 11] (K 40))))))))))))))))))))))))))
def ku_A_spread (rt : Option wq_V → wq_W → Prop) (xt : Nat → wq_W → Prop) : Nat → Nat → wq_T
  | 0, _ => fun _ _ _ _ _ => False
  | n + 1, pc => cond (Nat.beq pc 40) (kh_A_spread_40 rt xt (ku_A_spread rt xt n)) (cond (Nat.beq pc 112) (kh_A_spread_112 rt xt (ku_A_spread rt xt n)) (fun _ _ _ _ _ => False))
def ks_A_spread : wq_S := wq_sp 14 (fun rt xt => kt_A_spread_0 rt xt (ku_A_spread rt xt 1000000000000))
-- BorderDesk$Assessor.findValues(I)V
def kt_A_findValues_41 (rt : Option wq_V → wq_W → Prop) (xt : Nat → wq_W → Prop) (K : Nat → wq_T) : wq_T := (wq_aload 0 (wq_iload 1 (wq_iconst (nI 0) (wq_aload 0 (wq_get 6 3 (wq_get 5 10 (wq_call (wq_rv 6 ks_A_spread) 4 0 0 0 0 (wq_xout 0 0 xt) (wq_aload 0 (wq_iload 1 (wq_iconst (nI 1) (wq_aload 0 (wq_get 6 3 (wq_get 5 11 (wq_call (wq_rv 6 ks_A_spread) 4 0 0 0 0 (wq_xout 0 0 xt) (wq_vreturn 0 0 rt)))))))))))))))
def kh_A_findValues_2 (rt : Option wq_V → wq_W → Prop) (xt : Nat → wq_W → Prop) (K : Nat → wq_T) : wq_T := (wq_iload 2 (wq_aload 0 (wq_get 6 3 (wq_get 5 3 (wq_iload 1 (wq_iald (wq_f2 (fun x y => y ≤ x) (kt_A_findValues_41 rt xt K) (wq_aload 0 (wq_get 6 6 (wq_iload 2 (wq_aload 0 (wq_get 6 3 (wq_get 5 11 (wq_iload 1 (wq_iload 2 (wq_call ks_D_rowOf 2 0 0 0 0 (wq_xout 0 0 xt) (wq_iald (wq_i2l (wq_last (wq_iinc 2 (nI 1) (wq_can [0, 1, 2] (K 2))))))))))))))))))))))
def kt_A_findValues_0 (rt : Option wq_V → wq_W → Prop) (xt : Nat → wq_W → Prop) (K : Nat → wq_T) : wq_T := (wq_iconst (nI 0) (wq_istore 2 (wq_can [0, 1, 2] (K 2))))
def ku_A_findValues (rt : Option wq_V → wq_W → Prop) (xt : Nat → wq_W → Prop) : Nat → Nat → wq_T
  | 0, _ => fun _ _ _ _ _ => False
  | n + 1, pc => cond (Nat.beq pc 2) (kh_A_findValues_2 rt xt (ku_A_findValues rt xt n)) (fun _ _ _ _ _ => False)
def ks_A_findValues : wq_S := wq_sp 3 (fun rt xt => kt_A_findValues_0 rt xt (ku_A_findValues rt xt 1000000000000))
-- BorderDesk$Assessor.valueOf(II)J
def kt_A_valueOf_0 (rt : Option wq_V → wq_W → Prop) (xt : Nat → wq_W → Prop) : wq_T := (wq_aload 0 (wq_iload 1 (wq_call (wq_rv 6 ks_A_findValues) 2 0 0 0 0 (wq_xout 0 0 xt) (wq_aload 0 (wq_get 6 6 (wq_iload 2 (wq_lald (wq_lreturn 0 0 rt))))))))
def ks_A_valueOf : wq_S := wq_sp 3 (fun rt xt => kt_A_valueOf_0 rt xt)
-- BorderDesk$Assessor.roundHalvesUp(JJ)J
def kt_A_roundHalvesUp_23 (rt : Option wq_V → wq_W → Prop) (xt : Nat → wq_W → Prop) : wq_T := (wq_lreturn 0 0 rt)
def kt_A_roundHalvesUp_10 (rt : Option wq_V → wq_W → Prop) (xt : Nat → wq_W → Prop) : wq_T := (wq_lconst (2) (wq_lload 0 (wq_l2 (fun x y => x * y) (wq_lload 2 (wq_l2 (fun x y => x + y) (wq_lconst (2) (wq_lload 2 (wq_l2 (fun x y => x * y) (wq_l2d (fun x y => x / y) (kt_A_roundHalvesUp_23 rt xt))))))))))
def kt_A_roundHalvesUp_0 (rt : Option wq_V → wq_W → Prop) (xt : Nat → wq_W → Prop) : wq_T := (wq_lload 2 (wq_lconst (0 : Int64) (wq_fl (fun x y => y < x) (kt_A_roundHalvesUp_10 rt xt) (wq_lconst (0 : Int64) (kt_A_roundHalvesUp_23 rt xt)))))
def ks_A_roundHalvesUp : wq_S := wq_sp 4 (fun rt xt => kt_A_roundHalvesUp_0 rt xt)
-- BorderDesk$Assessor.dutyOf(II)J
def kt_A_dutyOf_78 (rt : Option wq_V → wq_W → Prop) (xt : Nat → wq_W → Prop) : wq_T := (wq_lstore 8 (wq_lload 3 (wq_aload 0 (wq_get 6 4 (wq_iload 1 (wq_iald (wq_i2l (wq_l2 (fun x y => x - y) (wq_lload 5 (wq_l2 (fun x y => x * y) (wq_aload 0 (wq_get 6 4 (wq_iload 1 (wq_iald (wq_i2l (wq_lload 8 (wq_l2 (fun x y => x * y) (wq_l2 (fun x y => x + y) (wq_lstore 10 (wq_lload 10 (wq_lload 3 (wq_lconst (10000) (wq_l2 (fun x y => x * y) (wq_call ks_A_roundHalvesUp 2 0 0 0 0 (wq_xout 0 0 xt) (wq_lreturn 0 0 rt)))))))))))))))))))))))))
def kt_A_dutyOf_60 (rt : Option wq_V → wq_W → Prop) (xt : Nat → wq_W → Prop) : wq_T := (wq_aload 0 (wq_get 6 2 (wq_get 3 3 (wq_iload 7 (wq_iald (wq_i2l (wq_aload 0 (wq_get 6 6 (wq_iload 1 (wq_lald (wq_l2 (fun x y => x * y) (kt_A_dutyOf_78 rt xt))))))))))))
def kt_A_dutyOf_0 (rt : Option wq_V → wq_W → Prop) (xt : Nat → wq_W → Prop) : wq_T := (wq_aload 0 (wq_get 6 3 (wq_get 5 9 (wq_iload 2 (wq_iald (wq_i2l (wq_lstore 3 (wq_aload 0 (wq_get 6 1 (wq_aload 0 (wq_get 6 7 (wq_iload 1 (wq_iald (wq_aload 0 (wq_get 6 6 (wq_iload 1 (wq_lald (wq_aload 0 (wq_get 6 3 (wq_get 5 10 (wq_iload 2 (wq_iald (wq_i2l (wq_call (wq_rv 2 ks_R_exactDuty) 4 0 0 0 0 (wq_xout 0 0 xt) (wq_lstore 5 (wq_aload 0 (wq_get 6 8 (wq_iload 1 (wq_iald (wq_istore 7 (wq_iload 7 (wq_iconst (-1) (wq_f2 (fun x y => x = y) (wq_lconst (0 : Int64) (kt_A_dutyOf_78 rt xt)) (kt_A_dutyOf_60 rt xt))))))))))))))))))))))))))))))))))
def ks_A_dutyOf : wq_S := wq_sp 12 (fun rt xt => kt_A_dutyOf_0 rt xt)
-- BorderDesk$Assessor.findDuties(I)V
def kt_A_findDuties_42 (rt : Option wq_V → wq_W → Prop) (xt : Nat → wq_W → Prop) (K : Nat → wq_T) : wq_T := (wq_vreturn 0 0 rt)
def kh_A_findDuties_7 (rt : Option wq_V → wq_W → Prop) (xt : Nat → wq_W → Prop) (K : Nat → wq_T) : wq_T := (wq_iload 2 (wq_aload 0 (wq_get 6 3 (wq_get 5 3 (wq_iload 1 (wq_iald (wq_f2 (fun x y => y ≤ x) (kt_A_findDuties_42 rt xt K) (wq_aload 0 (wq_get 6 5 (wq_iload 2 (wq_aload 0 (wq_iload 2 (wq_iload 1 (wq_iload 2 (wq_call ks_D_rowOf 2 0 0 0 0 (wq_xout 0 0 xt) (wq_call (wq_rv 6 ks_A_dutyOf) 3 0 0 0 0 (wq_xout 0 0 xt) (wq_last (wq_iinc 2 (nI 1) (wq_can [0, 1, 2] (K 7))))))))))))))))))))
def kt_A_findDuties_0 (rt : Option wq_V → wq_W → Prop) (xt : Nat → wq_W → Prop) (K : Nat → wq_T) : wq_T := (wq_aload 0 (wq_iload 1 (wq_call (wq_rv 6 ks_A_findValues) 2 0 0 0 0 (wq_xout 0 0 xt) (wq_iconst (nI 0) (wq_istore 2 (wq_can [0, 1, 2] (K 7)))))))
def ku_A_findDuties (rt : Option wq_V → wq_W → Prop) (xt : Nat → wq_W → Prop) : Nat → Nat → wq_T
  | 0, _ => fun _ _ _ _ _ => False
  | n + 1, pc => cond (Nat.beq pc 7) (kh_A_findDuties_7 rt xt (ku_A_findDuties rt xt n)) (fun _ _ _ _ _ => False)
def ks_A_findDuties : wq_S := wq_sp 3 (fun rt xt => kt_A_findDuties_0 rt xt (ku_A_findDuties rt xt 1000000000000))
-- BorderDesk$Assessor.copyQuotasLeft()V
def kt_A_copyQuotasLeft_0 (rt : Option wq_V → wq_W → Prop) (xt : Nat → wq_W → Prop) : wq_T := (wq_aload 0 (wq_get 6 2 (wq_get 3 2 (wq_iconst (nI 0) (wq_aload 0 (wq_get 6 9 (wq_iconst (nI 0) (wq_iconst (nI 8) (wq_cpy (wq_vreturn 0 0 rt))))))))))
def ks_A_copyQuotasLeft : wq_S := wq_sp 1 (fun rt xt => kt_A_copyQuotasLeft_0 rt xt)
-- BorderDesk$Assessor.takeMore(II)V
def kt_A_takeMore_53 (rt : Option wq_V → wq_W → Prop) (xt : Nat → wq_W → Prop) : wq_T := (wq_vreturn 0 0 rt)
def kt_A_takeMore_0 (rt : Option wq_V → wq_W → Prop) (xt : Nat → wq_W → Prop) : wq_T := (wq_aload 0 (wq_get 6 8 (wq_iload 1 (wq_iald (wq_istore 3 (wq_iload 3 (wq_iconst (-1) (wq_f2 (fun x y => x = y) (kt_A_takeMore_53 rt xt) (wq_iload 2 (wq_aload 0 (wq_get 6 4 (wq_iload 1 (wq_iald (wq_i2 (fun x y => x - y) (wq_aload 0 (wq_get 6 9 (wq_iload 3 (wq_iald (wq_m2 (fun x y => if y < x then y else x) 0 0 (wq_istore 4 (wq_aload 0 (wq_get 6 4 (wq_iload 1 (wq_dup2 (wq_iald (wq_iload 4 (wq_i2 (fun x y => x + y) (wq_iast (wq_aload 0 (wq_get 6 9 (wq_iload 3 (wq_dup2 (wq_iald (wq_iload 4 (wq_i2 (fun x y => x - y) (wq_iast (kt_A_takeMore_53 rt xt)))))))))))))))))))))))))))))))))))))
def ks_A_takeMore : wq_S := wq_sp 5 (fun rt xt => kt_A_takeMore_0 rt xt)
-- BorderDesk$Assessor.giveBack(III)V
def kt_A_giveBack_29 (rt : Option wq_V → wq_W → Prop) (xt : Nat → wq_W → Prop) : wq_T := (wq_vreturn 0 0 rt)
def kt_A_giveBack_0 (rt : Option wq_V → wq_W → Prop) (xt : Nat → wq_W → Prop) : wq_T := (wq_iload 2 (wq_iconst (-1) (wq_f2 (fun x y => x = y) (kt_A_giveBack_29 rt xt) (wq_iload 3 (wq_f1 (fun x => x ≤ 0) (kt_A_giveBack_29 rt xt) (wq_aload 0 (wq_get 6 4 (wq_iload 1 (wq_dup2 (wq_iald (wq_iload 3 (wq_i2 (fun x y => x - y) (wq_iast (wq_aload 0 (wq_get 6 9 (wq_iload 2 (wq_dup2 (wq_iald (wq_iload 3 (wq_i2 (fun x y => x + y) (wq_iast (kt_A_giveBack_29 rt xt))))))))))))))))))))))
def ks_A_giveBack : wq_S := wq_sp 4 (fun rt xt => kt_A_giveBack_0 rt xt)
-- BorderDesk$Assessor.assess(I)V
def kt_A_assess_50 (rt : Option wq_V → wq_W → Prop) (xt : Nat → wq_W → Prop) (K : Nat → wq_T) : wq_T := (wq_aload 0 (wq_iload 1 (wq_call (wq_rv 6 ks_A_findDuties) 2 0 0 0 0 (wq_xout 0 0 xt) (wq_vreturn 0 0 rt))))
def kh_A_assess_6 (rt : Option wq_V → wq_W → Prop) (xt : Nat → wq_W → Prop) (K : Nat → wq_T) : wq_T := (wq_iload 2 (wq_aload 0 (wq_get 6 3 (wq_get 5 3 (wq_iload 1 (wq_iald (wq_f2 (fun x y => y ≤ x) (kt_A_assess_50 rt xt K) (wq_aload 0 (wq_get 6 4 (wq_iload 2 (wq_iconst (nI 0) (wq_iast (wq_aload 0 (wq_iload 2 (wq_aload 0 (wq_get 6 3 (wq_get 5 9 (wq_iload 1 (wq_iload 2 (wq_call ks_D_rowOf 2 0 0 0 0 (wq_xout 0 0 xt) (wq_iald (wq_call (wq_rv 6 ks_A_takeMore) 3 0 0 0 0 (wq_xout 0 0 xt) (wq_iinc 2 (nI 1) (wq_can [0, 1, 2] (K 6)))))))))))))))))))))))))
def kt_A_assess_0 (rt : Option wq_V → wq_W → Prop) (xt : Nat → wq_W → Prop) (K : Nat → wq_T) : wq_T := (wq_aload 0 (wq_call (wq_rv 6 ks_A_copyQuotasLeft) 1 0 0 0 0 (wq_xout 0 0 xt) (wq_iconst (nI 0) (wq_istore 2 (wq_can [0, 1, 2] (K 6))))))
def ku_A_assess (rt : Option wq_V → wq_W → Prop) (xt : Nat → wq_W → Prop) : Nat → Nat → wq_T
  | 0, _ => fun _ _ _ _ _ => False
  | n + 1, pc => cond (Nat.beq pc 6) (kh_A_assess_6 rt xt (ku_A_assess rt xt n)) (fun _ _ _ _ _ => False)
def ks_A_assess : wq_S := wq_sp 3 (fun rt xt => kt_A_assess_0 rt xt (ku_A_assess rt xt 1000000000000))
-- BorderDesk$Assessor.assessAnew(I)V
def kt_A_assessAnew_76 (rt : Option wq_V → wq_W → Prop) (xt : Nat → wq_W → Prop) (K : Nat → wq_T) : wq_T := (wq_iconst (nI 0) (wq_istore 2 (wq_can [0, 1, 2] (K 78))))
def kh_A_assessAnew_6 (rt : Option wq_V → wq_W → Prop) (xt : Nat → wq_W → Prop) (K : Nat → wq_T) : wq_T := (wq_iload 2 (wq_aload 0 (wq_get 6 3 (wq_get 5 3 (wq_iload 1 (wq_iald (wq_f2 (fun x y => y ≤ x) (kt_A_assessAnew_76 rt xt K) (wq_iload 1 (wq_iload 2 (wq_call ks_D_rowOf 2 0 0 0 0 (wq_xout 0 0 xt) (wq_istore 3 (wq_aload 0 (wq_get 6 4 (wq_iload 2 (wq_aload 0 (wq_get 6 3 (wq_get 5 14 (wq_iload 3 (wq_iald (wq_iast (wq_aload 0 (wq_iload 2 (wq_aload 0 (wq_get 6 3 (wq_get 5 13 (wq_iload 3 (wq_iald (wq_aload 0 (wq_get 6 4 (wq_iload 2 (wq_iald (wq_aload 0 (wq_get 6 3 (wq_get 5 9 (wq_iload 3 (wq_iald (wq_i2 (fun x y => x - y) (wq_call (wq_rv 6 ks_A_giveBack) 4 0 0 0 0 (wq_xout 0 0 xt) (wq_iinc 2 (nI 1) (wq_can [0, 1, 2] (K 6)))))))))))))))))))))))))))))))))))))))))
def kt_A_assessAnew_155 (rt : Option wq_V → wq_W → Prop) (xt : Nat → wq_W → Prop) (K : Nat → wq_T) : wq_T := (wq_aload 0 (wq_iload 1 (wq_call (wq_rv 6 ks_A_findDuties) 2 0 0 0 0 (wq_xout 0 0 xt) (wq_vreturn 0 0 rt))))
def kt_A_assessAnew_135 (rt : Option wq_V → wq_W → Prop) (xt : Nat → wq_W → Prop) (K : Nat → wq_T) : wq_T := (wq_aload 0 (wq_iload 2 (wq_aload 0 (wq_get 6 3 (wq_get 5 9 (wq_iload 3 (wq_iald (wq_call (wq_rv 6 ks_A_takeMore) 3 0 0 0 0 (wq_xout 0 0 xt) (wq_iinc 2 (nI 1) (wq_can [0, 1, 2] (K 78)))))))))))
def kh_A_assessAnew_78 (rt : Option wq_V → wq_W → Prop) (xt : Nat → wq_W → Prop) (K : Nat → wq_T) : wq_T := (wq_iload 2 (wq_aload 0 (wq_get 6 3 (wq_get 5 3 (wq_iload 1 (wq_iald (wq_f2 (fun x y => y ≤ x) (kt_A_assessAnew_155 rt xt K) (wq_iload 1 (wq_iload 2 (wq_call ks_D_rowOf 2 0 0 0 0 (wq_xout 0 0 xt) (wq_istore 3 (wq_aload 0 (wq_get 6 8 (wq_iload 2 (wq_iald (wq_aload 0 (wq_get 6 3 (wq_get 5 13 (wq_iload 3 (wq_iald (wq_f2 (fun x y => x = y) (kt_A_assessAnew_135 rt xt K) (wq_aload 0 (wq_iload 2 (wq_aload 0 (wq_get 6 3 (wq_get 5 13 (wq_iload 3 (wq_iald (wq_aload 0 (wq_get 6 4 (wq_iload 2 (wq_iald (wq_call (wq_rv 6 ks_A_giveBack) 4 0 0 0 0 (wq_xout 0 0 xt) (kt_A_assessAnew_135 rt xt K))))))))))))))))))))))))))))))))))
def kt_A_assessAnew_0 (rt : Option wq_V → wq_W → Prop) (xt : Nat → wq_W → Prop) (K : Nat → wq_T) : wq_T := (wq_aload 0 (wq_call (wq_rv 6 ks_A_copyQuotasLeft) 1 0 0 0 0 (wq_xout 0 0 xt) (wq_iconst (nI 0) (wq_istore 2 (wq_can [0, 1, 2] (K 6))))))
def ku_A_assessAnew (rt : Option wq_V → wq_W → Prop) (xt : Nat → wq_W → Prop) : Nat → Nat → wq_T
  | 0, _ => fun _ _ _ _ _ => False
  | n + 1, pc => cond (Nat.beq pc 6) (kh_A_assessAnew_6 rt xt (ku_A_assessAnew rt xt n)) (cond (Nat.beq pc 78) (kh_A_assessAnew_78 rt xt (ku_A_assessAnew rt xt n)) (fun _ _ _ _ _ => False))
def ks_A_assessAnew : wq_S := wq_sp 4 (fun rt xt => kt_A_assessAnew_0 rt xt (ku_A_assessAnew rt xt 1000000000000))
-- BorderDesk$Assessor.book(I)V
def kt_A_book_72 (rt : Option wq_V → wq_W → Prop) (xt : Nat → wq_W → Prop) (K : Nat → wq_T) : wq_T := (wq_aload 0 (wq_get 6 9 (wq_iconst (nI 0) (wq_aload 0 (wq_get 6 2 (wq_get 3 2 (wq_iconst (nI 0) (wq_iconst (nI 8) (wq_cpy (wq_vreturn 0 0 rt))))))))))
def kh_A_book_2 (rt : Option wq_V → wq_W → Prop) (xt : Nat → wq_W → Prop) (K : Nat → wq_T) : wq_T := (wq_iload 2 (wq_aload 0 (wq_get 6 3 (wq_get 5 3 (wq_iload 1 (wq_iald (wq_f2 (fun x y => y ≤ x) (kt_A_book_72 rt xt K) (wq_iload 1 (wq_iload 2 (wq_call ks_D_rowOf 2 0 0 0 0 (wq_xout 0 0 xt) (wq_istore 3 (wq_aload 0 (wq_get 6 3 (wq_get 5 13 (wq_iload 3 (wq_aload 0 (wq_get 6 8 (wq_iload 2 (wq_iald (wq_iast (wq_aload 0 (wq_get 6 3 (wq_get 5 14 (wq_iload 3 (wq_aload 0 (wq_get 6 4 (wq_iload 2 (wq_iald (wq_iast (wq_aload 0 (wq_get 6 3 (wq_get 5 15 (wq_iload 3 (wq_aload 0 (wq_get 6 5 (wq_iload 2 (wq_lald (wq_last (wq_iinc 2 (nI 1) (wq_can [0, 1, 2] (K 2)))))))))))))))))))))))))))))))))))))))))
def kt_A_book_0 (rt : Option wq_V → wq_W → Prop) (xt : Nat → wq_W → Prop) (K : Nat → wq_T) : wq_T := (wq_iconst (nI 0) (wq_istore 2 (wq_can [0, 1, 2] (K 2))))
def ku_A_book (rt : Option wq_V → wq_W → Prop) (xt : Nat → wq_W → Prop) : Nat → Nat → wq_T
  | 0, _ => fun _ _ _ _ _ => False
  | n + 1, pc => cond (Nat.beq pc 2) (kh_A_book_2 rt xt (ku_A_book rt xt n)) (fun _ _ _ _ _ => False)
def ks_A_book : wq_S := wq_sp 4 (fun rt xt => kt_A_book_0 rt xt (ku_A_book rt xt 1000000000000))
-- BorderDesk$Assessor.canAssess(I)Z
def kt_A_canAssess_144 (rt : Option wq_V → wq_W → Prop) (xt : Nat → wq_W → Prop) (K : Nat → wq_T) : wq_T := (wq_zreturn 0 0 rt)
def kt_A_canAssess_143 (rt : Option wq_V → wq_W → Prop) (xt : Nat → wq_W → Prop) (K : Nat → wq_T) : wq_T := (wq_iconst (nI 0) (kt_A_canAssess_144 rt xt K))
def kt_A_canAssess_135 (rt : Option wq_V → wq_W → Prop) (xt : Nat → wq_W → Prop) (K : Nat → wq_T) : wq_T := (wq_iload 2 (wq_f1 (fun x => x ≤ 0) (kt_A_canAssess_143 rt xt K) (wq_iconst (nI 1) (kt_A_canAssess_144 rt xt K))))
def kt_A_canAssess_110 (rt : Option wq_V → wq_W → Prop) (xt : Nat → wq_W → Prop) (K : Nat → wq_T) : wq_T := (wq_aload 0 (wq_get 6 8 (wq_iload 4 (wq_aload 0 (wq_get 6 2 (wq_iload 7 (wq_iload 6 (wq_iload 3 (wq_call (wq_rv 3 ks_Q_find) 4 0 0 0 0 (wq_xout 0 0 xt) (wq_iast (wq_iinc 4 (nI 1) (wq_can [0, 1, 2, 3, 4] (K 23)))))))))))))
def kt_A_canAssess_96 (rt : Option wq_V → wq_W → Prop) (xt : Nat → wq_W → Prop) (K : Nat → wq_T) : wq_T := (wq_iast (wq_aload 0 (wq_get 6 7 (wq_iload 4 (wq_iald (wq_iconst (-1) (wq_f2 (fun x y => x = y) (wq_iconst (nI 0) (wq_zreturn 0 0 rt)) (kt_A_canAssess_110 rt xt K))))))))
def kt_A_canAssess_84 (rt : Option wq_V → wq_W → Prop) (xt : Nat → wq_W → Prop) (K : Nat → wq_T) : wq_T := (wq_aload 0 (wq_get 6 1 (wq_iload 7 (wq_iload 6 (wq_iload 3 (wq_call (wq_rv 2 ks_R_find) 4 0 0 0 0 (wq_xout 0 0 xt) (kt_A_canAssess_96 rt xt K)))))))
def kh_A_canAssess_23 (rt : Option wq_V → wq_W → Prop) (xt : Nat → wq_W → Prop) (K : Nat → wq_T) : wq_T := (wq_iload 4 (wq_iload 2 (wq_f2 (fun x y => y ≤ x) (kt_A_canAssess_135 rt xt K) (wq_iload 1 (wq_iload 4 (wq_call ks_D_rowOf 2 0 0 0 0 (wq_xout 0 0 xt) (wq_istore 5 (wq_aload 0 (wq_get 6 3 (wq_get 5 8 (wq_iload 5 (wq_iald (wq_istore 6 (wq_aload 0 (wq_get 6 0 (wq_aload 0 (wq_get 6 3 (wq_get 5 7 (wq_iload 5 (wq_iald (wq_call (wq_rv 1 ks_T_classOf) 2 0 0 0 0 (wq_xout 0 0 xt) (wq_istore 7 (wq_aload 0 (wq_get 6 7 (wq_iload 4 (wq_iload 7 (wq_iconst (-1) (wq_f2 (fun x y => x = y) (wq_iconst (-1) (kt_A_canAssess_96 rt xt K)) (kt_A_canAssess_84 rt xt K)))))))))))))))))))))))))))))
def kt_A_canAssess_0 (rt : Option wq_V → wq_W → Prop) (xt : Nat → wq_W → Prop) (K : Nat → wq_T) : wq_T := (wq_aload 0 (wq_get 6 3 (wq_get 5 3 (wq_iload 1 (wq_iald (wq_istore 2 (wq_aload 0 (wq_get 6 3 (wq_get 5 1 (wq_iload 1 (wq_iald (wq_istore 3 (wq_iconst (nI 0) (wq_istore 4 (wq_can [0, 1, 2, 3, 4] (K 23))))))))))))))))
def ku_A_canAssess (rt : Option wq_V → wq_W → Prop) (xt : Nat → wq_W → Prop) : Nat → Nat → wq_T
  | 0, _ => fun _ _ _ _ _ => False
  | n + 1, pc => cond (Nat.beq pc 23) (kh_A_canAssess_23 rt xt (ku_A_canAssess rt xt n)) (fun _ _ _ _ _ => False)
def ks_A_canAssess : wq_S := wq_sp 8 (fun rt xt => kt_A_canAssess_0 rt xt (ku_A_canAssess rt xt 1000000000000))
-- BorderDesk.makeLots(I)V
def kt_B_makeLots_115 (rt : Option wq_V → wq_W → Prop) (xt : Nat → wq_W → Prop) (K : Nat → wq_T) : wq_T := (wq_vreturn 0 0 rt)
def kt_B_makeLots_109 (rt : Option wq_V → wq_W → Prop) (xt : Nat → wq_W → Prop) (K : Nat → wq_T) : wq_T := (wq_iinc 2 (nI 1) (wq_can [0, 1, 2] (K 18)))
def kh_B_makeLots_18 (rt : Option wq_V → wq_W → Prop) (xt : Nat → wq_W → Prop) (K : Nat → wq_T) : wq_T := (wq_iload 2 (wq_aload 0 (wq_get 0 4 (wq_get 5 3 (wq_iload 1 (wq_iald (wq_f2 (fun x y => y ≤ x) (kt_B_makeLots_115 rt xt K) (wq_iload 1 (wq_iload 2 (wq_call ks_D_rowOf 2 0 0 0 0 (wq_xout 0 0 xt) (wq_istore 3 (wq_aload 0 (wq_get 0 4 (wq_get 5 12 (wq_iload 3 (wq_zald (wq_istore 4 (wq_aload 0 (wq_get 0 4 (wq_get 5 15 (wq_iload 3 (wq_lald (wq_lstore 5 (wq_aload 0 (wq_get 0 6 (wq_aload 0 (wq_get 0 4 (wq_get 5 7 (wq_iload 3 (wq_iald (wq_aload 0 (wq_get 0 4 (wq_get 5 9 (wq_iload 3 (wq_iald (wq_lload 5 (wq_iload 4 (wq_iconst (nI 0) (wq_call (wq_rv 7 ks_L_add) 6 0 0 0 0 (wq_xout 0 0 xt) (wq_pop (wq_iload 4 (wq_f1 (fun x => x = 0) (wq_aload 0 (wq_get 0 7 (wq_dup (wq_get 8 0 (wq_lload 5 (wq_l2 (fun x y => x + y) (wq_put 8 0 wq_isL (kt_B_makeLots_109 rt xt K)))))))) (kt_B_makeLots_109 rt xt K)))))))))))))))))))))))))))))))))))))))))))
def kt_B_makeLots_0 (rt : Option wq_V → wq_W → Prop) (xt : Nat → wq_W → Prop) (K : Nat → wq_T) : wq_T := (wq_aload 0 (wq_get 0 4 (wq_get 5 6 (wq_iload 1 (wq_aload 0 (wq_get 0 6 (wq_get 7 0 (wq_iast (wq_iconst (nI 0) (wq_istore 2 (wq_can [0, 1, 2] (K 18))))))))))))
def ku_B_makeLots (rt : Option wq_V → wq_W → Prop) (xt : Nat → wq_W → Prop) : Nat → Nat → wq_T
  | 0, _ => fun _ _ _ _ _ => False
  | n + 1, pc => cond (Nat.beq pc 18) (kh_B_makeLots_18 rt xt (ku_B_makeLots rt xt n)) (fun _ _ _ _ _ => False)
def ks_B_makeLots : wq_S := wq_sp 7 (fun rt xt => kt_B_makeLots_0 rt xt (ku_B_makeLots rt xt 1000000000000))
-- BorderDesk.changeLots(I)V
def kt_B_changeLots_123 (rt : Option wq_V → wq_W → Prop) (xt : Nat → wq_W → Prop) (K : Nat → wq_T) : wq_T := (wq_vreturn 0 0 rt)
def kt_B_changeLots_79 (rt : Option wq_V → wq_W → Prop) (xt : Nat → wq_W → Prop) (K : Nat → wq_T) : wq_T := (wq_aload 0 (wq_get 0 6 (wq_get 7 2 (wq_iload 4 (wq_aload 0 (wq_get 0 4 (wq_get 5 9 (wq_iload 3 (wq_iald (wq_iast (wq_aload 0 (wq_get 0 6 (wq_get 7 4 (wq_iload 4 (wq_aload 0 (wq_get 0 4 (wq_get 5 15 (wq_iload 3 (wq_lald (wq_last (wq_iinc 2 (nI 1) (wq_can [0, 1, 2] (K 2)))))))))))))))))))))))
def kh_B_changeLots_2 (rt : Option wq_V → wq_W → Prop) (xt : Nat → wq_W → Prop) (K : Nat → wq_T) : wq_T := (wq_iload 2 (wq_aload 0 (wq_get 0 4 (wq_get 5 3 (wq_iload 1 (wq_iald (wq_f2 (fun x y => y ≤ x) (kt_B_changeLots_123 rt xt K) (wq_iload 1 (wq_iload 2 (wq_call ks_D_rowOf 2 0 0 0 0 (wq_xout 0 0 xt) (wq_istore 3 (wq_aload 0 (wq_get 0 4 (wq_get 5 6 (wq_iload 1 (wq_iald (wq_iload 2 (wq_i2 (fun x y => x + y) (wq_istore 4 (wq_aload 0 (wq_get 0 6 (wq_get 7 5 (wq_iload 4 (wq_zald (wq_f1 (fun x => x = 0) (wq_aload 0 (wq_get 0 7 (wq_dup (wq_get 8 0 (wq_aload 0 (wq_get 0 4 (wq_get 5 15 (wq_iload 3 (wq_lald (wq_aload 0 (wq_get 0 6 (wq_get 7 4 (wq_iload 4 (wq_lald (wq_l2 (fun x y => x - y) (wq_l2 (fun x y => x + y) (wq_put 8 0 wq_isL (kt_B_changeLots_79 rt xt K)))))))))))))))))) (kt_B_changeLots_79 rt xt K))))))))))))))))))))))))))
def kt_B_changeLots_0 (rt : Option wq_V → wq_W → Prop) (xt : Nat → wq_W → Prop) (K : Nat → wq_T) : wq_T := (wq_iconst (nI 0) (wq_istore 2 (wq_can [0, 1, 2] (K 2))))
def ku_B_changeLots (rt : Option wq_V → wq_W → Prop) (xt : Nat → wq_W → Prop) : Nat → Nat → wq_T
  | 0, _ => fun _ _ _ _ _ => False
  | n + 1, pc => cond (Nat.beq pc 2) (kh_B_changeLots_2 rt xt (ku_B_changeLots rt xt n)) (fun _ _ _ _ _ => False)
def ks_B_changeLots : wq_S := wq_sp 5 (fun rt xt => kt_B_changeLots_0 rt xt (ku_B_changeLots rt xt 1000000000000))
-- BorderDesk.hasGoneUnits(I)Z
def kt_B_hasGoneUnits_45 (rt : Option wq_V → wq_W → Prop) (xt : Nat → wq_W → Prop) (K : Nat → wq_T) : wq_T := (wq_iconst (nI 0) (wq_zreturn 0 0 rt))
def kt_B_hasGoneUnits_39 (rt : Option wq_V → wq_W → Prop) (xt : Nat → wq_W → Prop) (K : Nat → wq_T) : wq_T := (wq_iinc 2 (nI 1) (wq_can [0, 1, 2] (K 2)))
def kh_B_hasGoneUnits_2 (rt : Option wq_V → wq_W → Prop) (xt : Nat → wq_W → Prop) (K : Nat → wq_T) : wq_T := (wq_iload 2 (wq_aload 0 (wq_get 0 4 (wq_get 5 3 (wq_iload 1 (wq_iald (wq_f2 (fun x y => y ≤ x) (kt_B_hasGoneUnits_45 rt xt K) (wq_aload 0 (wq_get 0 6 (wq_get 7 3 (wq_aload 0 (wq_get 0 4 (wq_get 5 6 (wq_iload 1 (wq_iald (wq_iload 2 (wq_i2 (fun x y => x + y) (wq_iald (wq_f1 (fun x => x ≤ 0) (kt_B_hasGoneUnits_39 rt xt K) (wq_iconst (nI 1) (wq_zreturn 0 0 rt)))))))))))))))))))))
def kt_B_hasGoneUnits_0 (rt : Option wq_V → wq_W → Prop) (xt : Nat → wq_W → Prop) (K : Nat → wq_T) : wq_T := (wq_iconst (nI 0) (wq_istore 2 (wq_can [0, 1, 2] (K 2))))
def ku_B_hasGoneUnits (rt : Option wq_V → wq_W → Prop) (xt : Nat → wq_W → Prop) : Nat → Nat → wq_T
  | 0, _ => fun _ _ _ _ _ => False
  | n + 1, pc => cond (Nat.beq pc 2) (kh_B_hasGoneUnits_2 rt xt (ku_B_hasGoneUnits rt xt n)) (fun _ _ _ _ _ => False)
def ks_B_hasGoneUnits : wq_S := wq_sp 3 (fun rt xt => kt_B_hasGoneUnits_0 rt xt (ku_B_hasGoneUnits rt xt 1000000000000))
