-- BorderDesk$Declarations.add(II)I
def kt_D_add_0 (rt : Option wq_V → wq_W → Prop) (xt : Nat → wq_W → Prop) : wq_T := (wq_aload 0 (wq_get 5 0 (wq_istore 3 (wq_aload 0 (wq_get 5 1 (wq_iload 3 (wq_iload 1 (wq_iast (wq_aload 0 (wq_get 5 2 (wq_iload 3 (wq_iload 2 (wq_iast (wq_aload 0 (wq_dup (wq_get 5 0 (wq_iconst (nI 1) (wq_i2 (fun x y => x + y) (wq_put 5 0 wq_isI (wq_iload 3 (wq_ireturn 0 0 rt)))))))))))))))))))))
def ks_D_add : wq_S := wq_sp 4 (fun rt xt => kt_D_add_0 rt xt)
-- BorderDesk$Declarations.rowOf(II)I
def kt_D_rowOf_0 (rt : Option wq_V → wq_W → Prop) (xt : Nat → wq_W → Prop) : wq_T := (wq_iload 0 (wq_iconst (nI 4) (wq_i2 (fun x y => x * y) (wq_iload 1 (wq_i2 (fun x y => x + y) (wq_ireturn 0 0 rt))))))
def ks_D_rowOf : wq_S := wq_sp 2 (fun rt xt => kt_D_rowOf_0 rt xt)
-- BorderDesk$Declarations.isInBounds(II)Z
def kt_D_isInBounds_28 (rt : Option wq_V → wq_W → Prop) (xt : Nat → wq_W → Prop) : wq_T := (wq_iload 1 (wq_iconst (nI 1) (wq_iconst (nI 1000) (wq_call ks_B_isWithin 3 0 0 0 0 (wq_xout 0 0 xt) (wq_zreturn 0 0 rt)))))
def kt_D_isInBounds_37 (rt : Option wq_V → wq_W → Prop) (xt : Nat → wq_W → Prop) : wq_T := (wq_iload 1 (wq_iconst (nI 0) (wq_iconst (1000000) (wq_call ks_B_isWithin 3 0 0 0 0 (wq_xout 0 0 xt) (wq_zreturn 0 0 rt)))))
def kt_D_isInBounds_45 (rt : Option wq_V → wq_W → Prop) (xt : Nat → wq_W → Prop) : wq_T := (wq_iload 1 (wq_iconst (nI 0) (wq_iconst (100000000) (wq_call ks_B_isWithin 3 0 0 0 0 (wq_xout 0 0 xt) (wq_zreturn 0 0 rt)))))
def kt_D_isInBounds_53 (rt : Option wq_V → wq_W → Prop) (xt : Nat → wq_W → Prop) : wq_T := (wq_iconst (nI 0) (wq_zreturn 0 0 rt))
def kt_D_isInBounds_0 (rt : Option wq_V → wq_W → Prop) (xt : Nat → wq_W → Prop) : wq_T := (wq_iload 0 (wq_sw [((nI 0), (kt_D_isInBounds_28 rt xt)), ((nI 1), (kt_D_isInBounds_37 rt xt)), ((nI 2), (kt_D_isInBounds_45 rt xt))] (kt_D_isInBounds_53 rt xt)))
def ks_D_isInBounds : wq_S := wq_sp 2 (fun rt xt => kt_D_isInBounds_0 rt xt)
-- BorderDesk$Declarations.addLine(IIIIIIZ)I
def kt_D_addLine_0 (rt : Option wq_V → wq_W → Prop) (xt : Nat → wq_W → Prop) : wq_T := (wq_aload 0 (wq_get 5 3 (wq_iload 1 (wq_iald (wq_istore 8 (wq_iload 1 (wq_iload 8 (wq_call ks_D_rowOf 2 0 0 0 0 (wq_xout 0 0 xt) (wq_istore 9 (wq_aload 0 (wq_get 5 7 (wq_iload 9 (wq_iload 2 (wq_iast (wq_aload 0 (wq_get 5 8 (wq_iload 9 (wq_iload 3 (wq_iast (wq_aload 0 (wq_get 5 9 (wq_iload 9 (wq_iload 4 (wq_iast (wq_aload 0 (wq_get 5 10 (wq_iload 9 (wq_iload 5 (wq_iast (wq_aload 0 (wq_get 5 11 (wq_iload 9 (wq_iload 6 (wq_iast (wq_aload 0 (wq_get 5 12 (wq_iload 9 (wq_iload 7 (wq_zast (wq_aload 0 (wq_get 5 3 (wq_iload 1 (wq_dup2 (wq_iald (wq_iconst (nI 1) (wq_i2 (fun x y => x + y) (wq_iast (wq_iload 8 (wq_ireturn 0 0 rt)))))))))))))))))))))))))))))))))))))))))))))))))
def ks_D_addLine : wq_S := wq_sp 10 (fun rt xt => kt_D_addLine_0 rt xt)
-- BorderDesk$Declarations.setField(III)V
def kt_D_setField_55 (rt : Option wq_V → wq_W → Prop) (xt : Nat → wq_W → Prop) : wq_T := (wq_vreturn 0 0 rt)
def kt_D_setField_28 (rt : Option wq_V → wq_W → Prop) (xt : Nat → wq_W → Prop) : wq_T := (wq_aload 0 (wq_get 5 9 (wq_iload 1 (wq_iload 3 (wq_iast (kt_D_setField_55 rt xt))))))
def kt_D_setField_38 (rt : Option wq_V → wq_W → Prop) (xt : Nat → wq_W → Prop) : wq_T := (wq_aload 0 (wq_get 5 10 (wq_iload 1 (wq_iload 3 (wq_iast (kt_D_setField_55 rt xt))))))
def kt_D_setField_48 (rt : Option wq_V → wq_W → Prop) (xt : Nat → wq_W → Prop) : wq_T := (wq_aload 0 (wq_get 5 11 (wq_iload 1 (wq_iload 3 (wq_iast (kt_D_setField_55 rt xt))))))
def kt_D_setField_0 (rt : Option wq_V → wq_W → Prop) (xt : Nat → wq_W → Prop) : wq_T := (wq_iload 2 (wq_sw [((nI 0), (kt_D_setField_28 rt xt)), ((nI 1), (kt_D_setField_38 rt xt))] (kt_D_setField_48 rt xt)))
def ks_D_setField : wq_S := wq_sp 4 (fun rt xt => kt_D_setField_0 rt xt)
-- BorderDesk$Declarations.isLater(II)Z
def kt_D_isLater_82 (rt : Option wq_V → wq_W → Prop) (xt : Nat → wq_W → Prop) : wq_T := (wq_zreturn 0 0 rt)
def kt_D_isLater_81 (rt : Option wq_V → wq_W → Prop) (xt : Nat → wq_W → Prop) : wq_T := (wq_iconst (nI 0) (kt_D_isLater_82 rt xt))
def kt_D_isLater_72 (rt : Option wq_V → wq_W → Prop) (xt : Nat → wq_W → Prop) : wq_T := (wq_iload 1 (wq_iload 2 (wq_f2 (fun x y => x ≤ y) (kt_D_isLater_81 rt xt) (wq_iconst (nI 1) (kt_D_isLater_82 rt xt)))))
def kt_D_isLater_71 (rt : Option wq_V → wq_W → Prop) (xt : Nat → wq_W → Prop) : wq_T := (wq_zreturn 0 0 rt)
def kt_D_isLater_70 (rt : Option wq_V → wq_W → Prop) (xt : Nat → wq_W → Prop) : wq_T := (wq_iconst (nI 0) (kt_D_isLater_71 rt xt))
def kt_D_isLater_36 (rt : Option wq_V → wq_W → Prop) (xt : Nat → wq_W → Prop) : wq_T := (wq_aload 0 (wq_get 5 2 (wq_iload 1 (wq_iald (wq_aload 0 (wq_get 5 2 (wq_iload 2 (wq_iald (wq_f2 (fun x y => x = y) (kt_D_isLater_72 rt xt) (wq_aload 0 (wq_get 5 2 (wq_iload 1 (wq_iald (wq_aload 0 (wq_get 5 2 (wq_iload 2 (wq_iald (wq_f2 (fun x y => x ≤ y) (kt_D_isLater_70 rt xt) (wq_iconst (nI 1) (kt_D_isLater_71 rt xt))))))))))))))))))))
def kt_D_isLater_35 (rt : Option wq_V → wq_W → Prop) (xt : Nat → wq_W → Prop) : wq_T := (wq_zreturn 0 0 rt)
def kt_D_isLater_34 (rt : Option wq_V → wq_W → Prop) (xt : Nat → wq_W → Prop) : wq_T := (wq_iconst (nI 0) (kt_D_isLater_35 rt xt))
def kt_D_isLater_0 (rt : Option wq_V → wq_W → Prop) (xt : Nat → wq_W → Prop) : wq_T := (wq_aload 0 (wq_get 5 1 (wq_iload 1 (wq_iald (wq_aload 0 (wq_get 5 1 (wq_iload 2 (wq_iald (wq_f2 (fun x y => x = y) (kt_D_isLater_36 rt xt) (wq_aload 0 (wq_get 5 1 (wq_iload 1 (wq_iald (wq_aload 0 (wq_get 5 1 (wq_iload 2 (wq_iald (wq_f2 (fun x y => x ≤ y) (kt_D_isLater_34 rt xt) (wq_iconst (nI 1) (kt_D_isLater_35 rt xt))))))))))))))))))))
def ks_D_isLater : wq_S := wq_sp 3 (fun rt xt => kt_D_isLater_0 rt xt)
-- BorderDesk$Declarations.isLaterAccepted(I)Z
def kt_D_isLaterAccepted_36 (rt : Option wq_V → wq_W → Prop) (xt : Nat → wq_W → Prop) (K : Nat → wq_T) : wq_T := (wq_iconst (nI 0) (wq_zreturn 0 0 rt))
def kt_D_isLaterAccepted_30 (rt : Option wq_V → wq_W → Prop) (xt : Nat → wq_W → Prop) (K : Nat → wq_T) : wq_T := (wq_iinc 2 (nI 1) (wq_can [0, 1, 2] (K 2)))
def kh_D_isLaterAccepted_2 (rt : Option wq_V → wq_W → Prop) (xt : Nat → wq_W → Prop) (K : Nat → wq_T) : wq_T := (wq_iload 2 (wq_aload 0 (wq_get 5 0 (wq_f2 (fun x y => y ≤ x) (kt_D_isLaterAccepted_36 rt xt K) (wq_aload 0 (wq_get 5 5 (wq_iload 2 (wq_zald (wq_f1 (fun x => x = 0) (kt_D_isLaterAccepted_30 rt xt K) (wq_aload 0 (wq_iload 2 (wq_iload 1 (wq_call (wq_rv 5 ks_D_isLater) 3 0 0 0 0 (wq_xout 0 0 xt) (wq_f1 (fun x => x = 0) (kt_D_isLaterAccepted_30 rt xt K) (wq_iconst (nI 1) (wq_zreturn 0 0 rt))))))))))))))))
def kt_D_isLaterAccepted_0 (rt : Option wq_V → wq_W → Prop) (xt : Nat → wq_W → Prop) (K : Nat → wq_T) : wq_T := (wq_iconst (nI 0) (wq_istore 2 (wq_can [0, 1, 2] (K 2))))
def ku_D_isLaterAccepted (rt : Option wq_V → wq_W → Prop) (xt : Nat → wq_W → Prop) : Nat → Nat → wq_T
  | 0, _ => fun _ _ _ _ _ => False
  | n + 1, pc => cond (Nat.beq pc 2) (kh_D_isLaterAccepted_2 rt xt (ku_D_isLaterAccepted rt xt n)) (fun _ _ _ _ _ => False)
def ks_D_isLaterAccepted : wq_S := wq_sp 3 (fun rt xt => kt_D_isLaterAccepted_0 rt xt (ku_D_isLaterAccepted rt xt 1000000000000))
-- BorderDesk$Declarations.dutyOfAll(I)J
def kt_D_dutyOfAll_36 (rt : Option wq_V → wq_W → Prop) (xt : Nat → wq_W → Prop) (K : Nat → wq_T) : wq_T := (wq_lload 2 (wq_lreturn 0 0 rt))
def kh_D_dutyOfAll_5 (rt : Option wq_V → wq_W → Prop) (xt : Nat → wq_W → Prop) (K : Nat → wq_T) : wq_T := (wq_iload 4 (wq_aload 0 (wq_get 5 3 (wq_iload 1 (wq_iald (wq_f2 (fun x y => y ≤ x) (kt_D_dutyOfAll_36 rt xt K) (wq_lload 2 (wq_aload 0 (wq_get 5 15 (wq_iload 1 (wq_iload 4 (wq_call ks_D_rowOf 2 0 0 0 0 (wq_xout 0 0 xt) (wq_lald (wq_l2 (fun x y => x + y) (wq_lstore 2 (wq_iinc 4 (nI 1) (wq_can [0, 1, 2, 4] (K 5))))))))))))))))))
def kt_D_dutyOfAll_0 (rt : Option wq_V → wq_W → Prop) (xt : Nat → wq_W → Prop) (K : Nat → wq_T) : wq_T := (wq_lconst (0 : Int64) (wq_lstore 2 (wq_iconst (nI 0) (wq_istore 4 (wq_can [0, 1, 2, 4] (K 5))))))
def ku_D_dutyOfAll (rt : Option wq_V → wq_W → Prop) (xt : Nat → wq_W → Prop) : Nat → Nat → wq_T
  | 0, _ => fun _ _ _ _ _ => False
  | n + 1, pc => cond (Nat.beq pc 5) (kh_D_dutyOfAll_5 rt xt (ku_D_dutyOfAll rt xt n)) (fun _ _ _ _ _ => False)
def ks_D_dutyOfAll : wq_S := wq_sp 5 (fun rt xt => kt_D_dutyOfAll_0 rt xt (ku_D_dutyOfAll rt xt 1000000000000))
-- BorderDesk$Lots.add(IIJZZ)I
def kt_L_add_0 (rt : Option wq_V → wq_W → Prop) (xt : Nat → wq_W → Prop) : wq_T := (wq_aload 0 (wq_get 7 0 (wq_istore 7 (wq_aload 0 (wq_get 7 1 (wq_iload 7 (wq_iload 1 (wq_iast (wq_aload 0 (wq_get 7 2 (wq_iload 7 (wq_iload 2 (wq_iast (wq_aload 0 (wq_get 7 4 (wq_iload 7 (wq_lload 3 (wq_last (wq_aload 0 (wq_get 7 5 (wq_iload 7 (wq_iload 5 (wq_zast (wq_aload 0 (wq_get 7 6 (wq_iload 7 (wq_iload 6 (wq_zast (wq_aload 0 (wq_dup (wq_get 7 0 (wq_iconst (nI 1) (wq_i2 (fun x y => x + y) (wq_put 7 0 wq_isI (wq_iload 7 (wq_ireturn 0 0 rt))))))))))))))))))))))))))))))))))))
def ks_L_add : wq_S := wq_sp 8 (fun rt xt => kt_L_add_0 rt xt)
-- BorderDesk$Lots.unitsLeft(IZ)I
def kt_L_unitsLeft_60 (rt : Option wq_V → wq_W → Prop) (xt : Nat → wq_W → Prop) (K : Nat → wq_T) : wq_T := (wq_iload 3 (wq_ireturn 0 0 rt))
def kt_L_unitsLeft_54 (rt : Option wq_V → wq_W → Prop) (xt : Nat → wq_W → Prop) (K : Nat → wq_T) : wq_T := (wq_iinc 4 (nI 1) (wq_can [0, 1, 2, 3, 4] (K 5)))
def kh_L_unitsLeft_5 (rt : Option wq_V → wq_W → Prop) (xt : Nat → wq_W → Prop) (K : Nat → wq_T) : wq_T := (wq_iload 4 (wq_aload 0 (wq_get 7 0 (wq_f2 (fun x y => y ≤ x) (kt_L_unitsLeft_60 rt xt K) (wq_aload 0 (wq_get 7 1 (wq_iload 4 (wq_iald (wq_iload 1 (wq_f2 (fun x y => x = y) (wq_aload 0 (wq_get 7 5 (wq_iload 4 (wq_zald (wq_iload 2 (wq_f2 (fun x y => x = y) (wq_iload 3 (wq_aload 0 (wq_get 7 2 (wq_iload 4 (wq_iald (wq_aload 0 (wq_get 7 3 (wq_iload 4 (wq_iald (wq_i2 (fun x y => x - y) (wq_i2 (fun x y => x + y) (wq_istore 3 (kt_L_unitsLeft_54 rt xt K))))))))))))) (kt_L_unitsLeft_54 rt xt K))))))) (kt_L_unitsLeft_54 rt xt K)))))))))))
def kt_L_unitsLeft_0 (rt : Option wq_V → wq_W → Prop) (xt : Nat → wq_W → Prop) (K : Nat → wq_T) : wq_T := (wq_iconst (nI 0) (wq_istore 3 (wq_iconst (nI 0) (wq_istore 4 (wq_can [0, 1, 2, 3, 4] (K 5))))))
def ku_L_unitsLeft (rt : Option wq_V → wq_W → Prop) (xt : Nat → wq_W → Prop) : Nat → Nat → wq_T
  | 0, _ => fun _ _ _ _ _ => False
  | n + 1, pc => cond (Nat.beq pc 5) (kh_L_unitsLeft_5 rt xt (ku_L_unitsLeft rt xt n)) (fun _ _ _ _ _ => False)
def ks_L_unitsLeft : wq_S := wq_sp 5 (fun rt xt => kt_L_unitsLeft_0 rt xt (ku_L_unitsLeft rt xt 1000000000000))
-- BorderDesk$Lots.heldUnitsThatCame(IZ)I
def kt_L_heldUnitsThatCame_62 (rt : Option wq_V → wq_W → Prop) (xt : Nat → wq_W → Prop) (K : Nat → wq_T) : wq_T := (wq_iload 3 (wq_ireturn 0 0 rt))
def kt_L_heldUnitsThatCame_56 (rt : Option wq_V → wq_W → Prop) (xt : Nat → wq_W → Prop) (K : Nat → wq_T) : wq_T := (wq_iinc 4 (nI 1) (wq_can [0, 1, 2, 3, 4] (K 5)))
def kh_L_heldUnitsThatCame_5 (rt : Option wq_V → wq_W → Prop) (xt : Nat → wq_W → Prop) (K : Nat → wq_T) : wq_T := (wq_iload 4 (wq_aload 0 (wq_get 7 0 (wq_f2 (fun x y => y ≤ x) (kt_L_heldUnitsThatCame_62 rt xt K) (wq_aload 0 (wq_get 7 1 (wq_iload 4 (wq_iald (wq_iload 1 (wq_f2 (fun x y => x = y) (wq_aload 0 (wq_get 7 5 (wq_iload 4 (wq_zald (wq_f1 (fun x => x = 0) (kt_L_heldUnitsThatCame_56 rt xt K) (wq_aload 0 (wq_get 7 6 (wq_iload 4 (wq_zald (wq_iload 2 (wq_f2 (fun x y => x = y) (wq_iload 3 (wq_aload 0 (wq_get 7 2 (wq_iload 4 (wq_iald (wq_i2 (fun x y => x + y) (wq_istore 3 (kt_L_heldUnitsThatCame_56 rt xt K)))))))) (kt_L_heldUnitsThatCame_56 rt xt K)))))))))))) (kt_L_heldUnitsThatCame_56 rt xt K)))))))))))
def kt_L_heldUnitsThatCame_0 (rt : Option wq_V → wq_W → Prop) (xt : Nat → wq_W → Prop) (K : Nat → wq_T) : wq_T := (wq_iconst (nI 0) (wq_istore 3 (wq_iconst (nI 0) (wq_istore 4 (wq_can [0, 1, 2, 3, 4] (K 5))))))
def ku_L_heldUnitsThatCame (rt : Option wq_V → wq_W → Prop) (xt : Nat → wq_W → Prop) : Nat → Nat → wq_T
  | 0, _ => fun _ _ _ _ _ => False
  | n + 1, pc => cond (Nat.beq pc 5) (kh_L_heldUnitsThatCame_5 rt xt (ku_L_heldUnitsThatCame rt xt n)) (fun _ _ _ _ _ => False)
def ks_L_heldUnitsThatCame : wq_S := wq_sp 5 (fun rt xt => kt_L_heldUnitsThatCame_0 rt xt (ku_L_heldUnitsThatCame rt xt 1000000000000))
-- BorderDesk$Lots.dutyGone(I)J
def kt_L_dutyGone_35 (rt : Option wq_V → wq_W → Prop) (xt : Nat → wq_W → Prop) : wq_T := (wq_lreturn 0 0 rt)
def kt_L_dutyGone_13 (rt : Option wq_V → wq_W → Prop) (xt : Nat → wq_W → Prop) : wq_T := (wq_aload 0 (wq_get 7 4 (wq_iload 1 (wq_lald (wq_aload 0 (wq_get 7 3 (wq_iload 1 (wq_iald (wq_i2l (wq_l2 (fun x y => x * y) (wq_aload 0 (wq_get 7 2 (wq_iload 1 (wq_iald (wq_i2l (wq_l2d (fun x y => x / y) (kt_L_dutyGone_35 rt xt)))))))))))))))))
def kt_L_dutyGone_0 (rt : Option wq_V → wq_W → Prop) (xt : Nat → wq_W → Prop) : wq_T := (wq_aload 0 (wq_get 7 2 (wq_iload 1 (wq_iald (wq_f1 (fun x => 0 < x) (kt_L_dutyGone_13 rt xt) (wq_lconst (0 : Int64) (kt_L_dutyGone_35 rt xt)))))))
def ks_L_dutyGone : wq_S := wq_sp 2 (fun rt xt => kt_L_dutyGone_0 rt xt)
-- BorderDesk$Lots.takeUnits(IIZ)J
def kt_L_takeUnits_114 (rt : Option wq_V → wq_W → Prop) (xt : Nat → wq_W → Prop) (K : Nat → wq_T) : wq_T := (wq_lload 4 (wq_lreturn 0 0 rt))
def kt_L_takeUnits_108 (rt : Option wq_V → wq_W → Prop) (xt : Nat → wq_W → Prop) (K : Nat → wq_T) : wq_T := (wq_iinc 7 (nI 1) (wq_can [0, 1, 3, 4, 6, 7] (K 9)))
def kh_L_takeUnits_9 (rt : Option wq_V → wq_W → Prop) (xt : Nat → wq_W → Prop) (K : Nat → wq_T) : wq_T := (wq_iload 7 (wq_aload 0 (wq_get 7 0 (wq_f2 (fun x y => y ≤ x) (kt_L_takeUnits_114 rt xt K) (wq_iload 6 (wq_f1 (fun x => x ≤ 0) (kt_L_takeUnits_114 rt xt K) (wq_aload 0 (wq_get 7 1 (wq_iload 7 (wq_iald (wq_iload 1 (wq_f2 (fun x y => x = y) (wq_aload 0 (wq_get 7 5 (wq_iload 7 (wq_zald (wq_iload 3 (wq_f2 (fun x y => x = y) (wq_iload 6 (wq_aload 0 (wq_get 7 2 (wq_iload 7 (wq_iald (wq_aload 0 (wq_get 7 3 (wq_iload 7 (wq_iald (wq_i2 (fun x y => x - y) (wq_m2 (fun x y => if y < x then y else x) 0 0 (wq_istore 8 (wq_aload 0 (wq_iload 7 (wq_call (wq_rv 7 ks_L_dutyGone) 2 0 0 0 0 (wq_xout 0 0 xt) (wq_lstore 9 (wq_aload 0 (wq_get 7 3 (wq_iload 7 (wq_dup2 (wq_iald (wq_iload 8 (wq_i2 (fun x y => x + y) (wq_iast (wq_iload 6 (wq_iload 8 (wq_i2 (fun x y => x - y) (wq_istore 6 (wq_lload 4 (wq_aload 0 (wq_iload 7 (wq_call (wq_rv 7 ks_L_dutyGone) 2 0 0 0 0 (wq_xout 0 0 xt) (wq_lload 9 (wq_l2 (fun x y => x - y) (wq_l2 (fun x y => x + y) (wq_lstore 4 (kt_L_takeUnits_108 rt xt K))))))))))))))))))))))))))))))))))))) (kt_L_takeUnits_108 rt xt K))))))) (kt_L_takeUnits_108 rt xt K)))))))))))))
def kt_L_takeUnits_0 (rt : Option wq_V → wq_W → Prop) (xt : Nat → wq_W → Prop) (K : Nat → wq_T) : wq_T := (wq_lconst (0 : Int64) (wq_lstore 4 (wq_iload 2 (wq_istore 6 (wq_iconst (nI 0) (wq_istore 7 (wq_can [0, 1, 3, 4, 6, 7] (K 9))))))))
def ku_L_takeUnits (rt : Option wq_V → wq_W → Prop) (xt : Nat → wq_W → Prop) : Nat → Nat → wq_T
  | 0, _ => fun _ _ _ _ _ => False
  | n + 1, pc => cond (Nat.beq pc 9) (kh_L_takeUnits_9 rt xt (ku_L_takeUnits rt xt n)) (fun _ _ _ _ _ => False)
def ks_L_takeUnits : wq_S := wq_sp 11 (fun rt xt => kt_L_takeUnits_0 rt xt (ku_L_takeUnits rt xt 1000000000000))
