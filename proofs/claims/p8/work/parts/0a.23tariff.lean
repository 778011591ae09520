-- BorderDesk$Tariff.depthUnder(I)I
def kt_T_depthUnder_17 (rt : Option wq_V → wq_W → Prop) (xt : Nat → wq_W → Prop) : wq_T := (wq_ireturn 0 0 rt)
def kt_T_depthUnder_9 (rt : Option wq_V → wq_W → Prop) (xt : Nat → wq_W → Prop) : wq_T := (wq_aload 0 (wq_get 1 2 (wq_iload 1 (wq_iald (wq_iconst (nI 1) (wq_i2 (fun x y => x + y) (kt_T_depthUnder_17 rt xt)))))))
def kt_T_depthUnder_0 (rt : Option wq_V → wq_W → Prop) (xt : Nat → wq_W → Prop) : wq_T := (wq_iload 1 (wq_iconst (-1) (wq_f2 (fun x y => x = y) (wq_iconst (nI 0) (kt_T_depthUnder_17 rt xt)) (kt_T_depthUnder_9 rt xt))))
def ks_T_depthUnder : wq_S := wq_sp 2 (fun rt xt => kt_T_depthUnder_0 rt xt)
-- BorderDesk$Tariff.addHeading(I)I
def kt_T_addHeading_0 (rt : Option wq_V → wq_W → Prop) (xt : Nat → wq_W → Prop) : wq_T := (wq_aload 0 (wq_get 1 0 (wq_istore 2 (wq_aload 0 (wq_get 1 1 (wq_iload 2 (wq_iload 1 (wq_iast (wq_aload 0 (wq_get 1 2 (wq_iload 2 (wq_aload 0 (wq_iload 1 (wq_call (wq_rv 1 ks_T_depthUnder) 2 0 0 0 0 (wq_xout 0 0 xt) (wq_iast (wq_aload 0 (wq_get 1 3 (wq_iload 2 (wq_iconst (-1) (wq_iast (wq_aload 0 (wq_dup (wq_get 1 0 (wq_iconst (nI 1) (wq_i2 (fun x y => x + y) (wq_put 1 0 wq_isI (wq_iload 2 (wq_ireturn 0 0 rt))))))))))))))))))))))))))))
def ks_T_addHeading : wq_S := wq_sp 3 (fun rt xt => kt_T_addHeading_0 rt xt)
-- BorderDesk$Tariff.addNote(IIII)I
def kt_T_addNote_0 (rt : Option wq_V → wq_W → Prop) (xt : Nat → wq_W → Prop) : wq_T := (wq_aload 0 (wq_get 1 5 (wq_istore 5 (wq_aload 0 (wq_get 1 6 (wq_iload 5 (wq_iload 1 (wq_iast (wq_aload 0 (wq_get 1 7 (wq_iload 5 (wq_iload 2 (wq_iast (wq_aload 0 (wq_get 1 8 (wq_iload 5 (wq_iload 3 (wq_iast (wq_aload 0 (wq_get 1 9 (wq_iload 5 (wq_iload 4 (wq_iast (wq_aload 0 (wq_dup (wq_get 1 5 (wq_iconst (nI 1) (wq_i2 (fun x y => x + y) (wq_put 1 5 wq_isI (wq_iload 5 (wq_ireturn 0 0 rt)))))))))))))))))))))))))))))))
def ks_T_addNote : wq_S := wq_sp 6 (fun rt xt => kt_T_addNote_0 rt xt)
-- BorderDesk$Tariff.holds(III)Z
def kt_T_holds_47 (rt : Option wq_V → wq_W → Prop) (xt : Nat → wq_W → Prop) : wq_T := (wq_zreturn 0 0 rt)
def kt_T_holds_46 (rt : Option wq_V → wq_W → Prop) (xt : Nat → wq_W → Prop) : wq_T := (wq_iconst (nI 0) (kt_T_holds_47 rt xt))
def kt_T_holds_32 (rt : Option wq_V → wq_W → Prop) (xt : Nat → wq_W → Prop) : wq_T := (wq_iload 2 (wq_aload 0 (wq_get 1 9 (wq_iload 1 (wq_iald (wq_f2 (fun x y => x < y) (kt_T_holds_46 rt xt) (wq_iconst (nI 1) (kt_T_holds_47 rt xt))))))))
def kt_T_holds_63 (rt : Option wq_V → wq_W → Prop) (xt : Nat → wq_W → Prop) : wq_T := (wq_zreturn 0 0 rt)
def kt_T_holds_62 (rt : Option wq_V → wq_W → Prop) (xt : Nat → wq_W → Prop) : wq_T := (wq_iconst (nI 0) (kt_T_holds_63 rt xt))
def kt_T_holds_48 (rt : Option wq_V → wq_W → Prop) (xt : Nat → wq_W → Prop) : wq_T := (wq_iload 2 (wq_aload 0 (wq_get 1 9 (wq_iload 1 (wq_iald (wq_f2 (fun x y => y ≤ x) (kt_T_holds_62 rt xt) (wq_iconst (nI 1) (kt_T_holds_63 rt xt))))))))
def kt_T_holds_84 (rt : Option wq_V → wq_W → Prop) (xt : Nat → wq_W → Prop) : wq_T := (wq_zreturn 0 0 rt)
def kt_T_holds_83 (rt : Option wq_V → wq_W → Prop) (xt : Nat → wq_W → Prop) : wq_T := (wq_iconst (nI 0) (kt_T_holds_84 rt xt))
def kt_T_holds_64 (rt : Option wq_V → wq_W → Prop) (xt : Nat → wq_W → Prop) : wq_T := (wq_iload 2 (wq_aload 0 (wq_get 1 9 (wq_iload 1 (wq_iald (wq_f2 (fun x y => x < y) (kt_T_holds_83 rt xt) (wq_iload 2 (wq_iload 3 (wq_f2 (fun x y => x < y) (kt_T_holds_83 rt xt) (wq_iconst (nI 1) (kt_T_holds_84 rt xt)))))))))))
def kt_T_holds_0 (rt : Option wq_V → wq_W → Prop) (xt : Nat → wq_W → Prop) : wq_T := (wq_aload 0 (wq_get 1 7 (wq_iload 1 (wq_iald (wq_sw [((nI 0), (kt_T_holds_32 rt xt)), ((nI 1), (kt_T_holds_48 rt xt))] (kt_T_holds_64 rt xt))))))
def ks_T_holds : wq_S := wq_sp 4 (fun rt xt => kt_T_holds_0 rt xt)
-- BorderDesk$Tariff.greatestMaterial(I)I
def kt_T_greatestMaterial_28 (rt : Option wq_V → wq_W → Prop) (xt : Nat → wq_W → Prop) (K : Nat → wq_T) : wq_T := (wq_iload 2 (wq_ireturn 0 0 rt))
def kh_T_greatestMaterial_4 (rt : Option wq_V → wq_W → Prop) (xt : Nat → wq_W → Prop) (K : Nat → wq_T) : wq_T := (wq_iload 3 (wq_iconst (nI 4) (wq_f2 (fun x y => y ≤ x) (kt_T_greatestMaterial_28 rt xt K) (wq_iload 2 (wq_aload 0 (wq_get 1 10 (wq_iload 1 (wq_aald (wq_iload 3 (wq_iald (wq_m2 (fun x y => if x < y then y else x) 0 0 (wq_istore 2 (wq_iinc 3 (nI 1) (wq_can [0, 1, 2, 3] (K 4)))))))))))))))
def kt_T_greatestMaterial_0 (rt : Option wq_V → wq_W → Prop) (xt : Nat → wq_W → Prop) (K : Nat → wq_T) : wq_T := (wq_iconst (nI 0) (wq_istore 2 (wq_iconst (nI 0) (wq_istore 3 (wq_can [0, 1, 2, 3] (K 4))))))
def ku_T_greatestMaterial (rt : Option wq_V → wq_W → Prop) (xt : Nat → wq_W → Prop) : Nat → Nat → wq_T
  | 0, _ => fun _ _ _ _ _ => False
  | n + 1, pc => cond (Nat.beq pc 4) (kh_T_greatestMaterial_4 rt xt (ku_T_greatestMaterial rt xt n)) (fun _ _ _ _ _ => False)
def ks_T_greatestMaterial : wq_S := wq_sp 4 (fun rt xt => kt_T_greatestMaterial_0 rt xt (ku_T_greatestMaterial rt xt 1000000000000))
-- BorderDesk$Tariff.judgeByOwnNotes(I)V
def kt_T_judgeByOwnNotes_30 (rt : Option wq_V → wq_W → Prop) (xt : Nat → wq_W → Prop) (K : Nat → wq_T) : wq_T := (wq_aload 0 (wq_iload 1 (wq_call (wq_rv 1 ks_T_greatestMaterial) 2 0 0 0 0 (wq_xout 0 0 xt) (wq_istore 2 (wq_iconst (nI 0) (wq_istore 3 (wq_can [0, 1, 2, 3] (K 38))))))))
def kh_T_judgeByOwnNotes_2 (rt : Option wq_V → wq_W → Prop) (xt : Nat → wq_W → Prop) (K : Nat → wq_T) : wq_T := (wq_iload 2 (wq_aload 0 (wq_get 1 0 (wq_f2 (fun x y => y ≤ x) (kt_T_judgeByOwnNotes_30 rt xt K) (wq_aload 0 (wq_get 1 11 (wq_iload 2 (wq_iconst (nI 1) (wq_zast (wq_aload 0 (wq_get 1 12 (wq_iload 2 (wq_iconst (nI 0) (wq_iast (wq_iinc 2 (nI 1) (wq_can [0, 1, 2] (K 2)))))))))))))))))
def kt_T_judgeByOwnNotes_123 (rt : Option wq_V → wq_W → Prop) (xt : Nat → wq_W → Prop) (K : Nat → wq_T) : wq_T := (wq_vreturn 0 0 rt)
def kt_T_judgeByOwnNotes_117 (rt : Option wq_V → wq_W → Prop) (xt : Nat → wq_W → Prop) (K : Nat → wq_T) : wq_T := (wq_iinc 3 (nI 1) (wq_can [0, 1, 2, 3] (K 38)))
def kt_T_judgeByOwnNotes_88 (rt : Option wq_V → wq_W → Prop) (xt : Nat → wq_W → Prop) (K : Nat → wq_T) : wq_T := (wq_aload 0 (wq_get 1 7 (wq_iload 3 (wq_iald (wq_iconst (nI 2) (wq_f2 (fun x y => x = y) (wq_aload 0 (wq_get 1 12 (wq_iload 4 (wq_aload 0 (wq_get 1 12 (wq_iload 4 (wq_iald (wq_iload 5 (wq_m2 (fun x y => if x < y then y else x) 0 0 (wq_iast (kt_T_judgeByOwnNotes_117 rt xt K))))))))))) (kt_T_judgeByOwnNotes_117 rt xt K)))))))
def kh_T_judgeByOwnNotes_38 (rt : Option wq_V → wq_W → Prop) (xt : Nat → wq_W → Prop) (K : Nat → wq_T) : wq_T := (wq_iload 3 (wq_aload 0 (wq_get 1 5 (wq_f2 (fun x y => y ≤ x) (kt_T_judgeByOwnNotes_123 rt xt K) (wq_aload 0 (wq_get 1 6 (wq_iload 3 (wq_iald (wq_istore 4 (wq_aload 0 (wq_get 1 10 (wq_iload 1 (wq_aald (wq_aload 0 (wq_get 1 8 (wq_iload 3 (wq_iald (wq_iald (wq_istore 5 (wq_aload 0 (wq_iload 3 (wq_iload 5 (wq_iload 2 (wq_call (wq_rv 1 ks_T_holds) 4 0 0 0 0 (wq_xout 0 0 xt) (wq_f1 (fun x => x = 0) (wq_aload 0 (wq_get 1 11 (wq_iload 4 (wq_iconst (nI 0) (wq_zast (kt_T_judgeByOwnNotes_88 rt xt K)))))) (kt_T_judgeByOwnNotes_88 rt xt K))))))))))))))))))))))))))
def kt_T_judgeByOwnNotes_0 (rt : Option wq_V → wq_W → Prop) (xt : Nat → wq_W → Prop) (K : Nat → wq_T) : wq_T := (wq_iconst (nI 0) (wq_istore 2 (wq_can [0, 1, 2] (K 2))))
def ku_T_judgeByOwnNotes (rt : Option wq_V → wq_W → Prop) (xt : Nat → wq_W → Prop) : Nat → Nat → wq_T
  | 0, _ => fun _ _ _ _ _ => False
  | n + 1, pc => cond (Nat.beq pc 2) (kh_T_judgeByOwnNotes_2 rt xt (ku_T_judgeByOwnNotes rt xt n)) (cond (Nat.beq pc 38) (kh_T_judgeByOwnNotes_38 rt xt (ku_T_judgeByOwnNotes rt xt n)) (fun _ _ _ _ _ => False))
def ks_T_judgeByOwnNotes : wq_S := wq_sp 6 (fun rt xt => kt_T_judgeByOwnNotes_0 rt xt (ku_T_judgeByOwnNotes rt xt 1000000000000))
-- BorderDesk$Tariff.inheritFromParent(I)V
def kt_T_inheritFromParent_62 (rt : Option wq_V → wq_W → Prop) (xt : Nat → wq_W → Prop) : wq_T := (wq_vreturn 0 0 rt)
def kt_T_inheritFromParent_40 (rt : Option wq_V → wq_W → Prop) (xt : Nat → wq_W → Prop) : wq_T := (wq_zast (wq_aload 0 (wq_get 1 12 (wq_iload 1 (wq_aload 0 (wq_get 1 12 (wq_iload 1 (wq_iald (wq_aload 0 (wq_get 1 12 (wq_iload 2 (wq_iald (wq_m2 (fun x y => if x < y then y else x) 0 0 (wq_iast (kt_T_inheritFromParent_62 rt xt)))))))))))))))
def kt_T_inheritFromParent_39 (rt : Option wq_V → wq_W → Prop) (xt : Nat → wq_W → Prop) : wq_T := (wq_iconst (nI 0) (kt_T_inheritFromParent_40 rt xt))
def kt_T_inheritFromParent_0 (rt : Option wq_V → wq_W → Prop) (xt : Nat → wq_W → Prop) : wq_T := (wq_aload 0 (wq_get 1 1 (wq_iload 1 (wq_iald (wq_istore 2 (wq_iload 2 (wq_iconst (-1) (wq_f2 (fun x y => x = y) (kt_T_inheritFromParent_62 rt xt) (wq_aload 0 (wq_get 1 11 (wq_iload 1 (wq_aload 0 (wq_get 1 11 (wq_iload 1 (wq_zald (wq_f1 (fun x => x = 0) (kt_T_inheritFromParent_39 rt xt) (wq_aload 0 (wq_get 1 11 (wq_iload 2 (wq_zald (wq_f1 (fun x => x = 0) (kt_T_inheritFromParent_39 rt xt) (wq_iconst (nI 1) (kt_T_inheritFromParent_40 rt xt)))))))))))))))))))))))
def ks_T_inheritFromParent : wq_S := wq_sp 3 (fun rt xt => kt_T_inheritFromParent_0 rt xt)
-- BorderDesk$Tariff.isAsGood(II)Z
def kt_T_isAsGood_56 (rt : Option wq_V → wq_W → Prop) (xt : Nat → wq_W → Prop) : wq_T := (wq_zreturn 0 0 rt)
def kt_T_isAsGood_55 (rt : Option wq_V → wq_W → Prop) (xt : Nat → wq_W → Prop) : wq_T := (wq_iconst (nI 0) (kt_T_isAsGood_56 rt xt))
def kt_T_isAsGood_36 (rt : Option wq_V → wq_W → Prop) (xt : Nat → wq_W → Prop) : wq_T := (wq_aload 0 (wq_get 1 12 (wq_iload 1 (wq_iald (wq_aload 0 (wq_get 1 12 (wq_iload 2 (wq_iald (wq_f2 (fun x y => x < y) (kt_T_isAsGood_55 rt xt) (wq_iconst (nI 1) (kt_T_isAsGood_56 rt xt)))))))))))
def kt_T_isAsGood_35 (rt : Option wq_V → wq_W → Prop) (xt : Nat → wq_W → Prop) : wq_T := (wq_zreturn 0 0 rt)
def kt_T_isAsGood_34 (rt : Option wq_V → wq_W → Prop) (xt : Nat → wq_W → Prop) : wq_T := (wq_iconst (nI 0) (kt_T_isAsGood_35 rt xt))
def kt_T_isAsGood_0 (rt : Option wq_V → wq_W → Prop) (xt : Nat → wq_W → Prop) : wq_T := (wq_aload 0 (wq_get 1 2 (wq_iload 1 (wq_iald (wq_aload 0 (wq_get 1 2 (wq_iload 2 (wq_iald (wq_f2 (fun x y => x = y) (kt_T_isAsGood_36 rt xt) (wq_aload 0 (wq_get 1 2 (wq_iload 1 (wq_iald (wq_aload 0 (wq_get 1 2 (wq_iload 2 (wq_iald (wq_f2 (fun x y => x ≤ y) (kt_T_isAsGood_34 rt xt) (wq_iconst (nI 1) (kt_T_isAsGood_35 rt xt))))))))))))))))))))
def ks_T_isAsGood : wq_S := wq_sp 3 (fun rt xt => kt_T_isAsGood_0 rt xt)
-- BorderDesk$Tariff.classOf(I)I
def kt_T_classOf_53 (rt : Option wq_V → wq_W → Prop) (xt : Nat → wq_W → Prop) (K : Nat → wq_T) : wq_T := (wq_iload 2 (wq_ireturn 0 0 rt))
def kt_T_classOf_47 (rt : Option wq_V → wq_W → Prop) (xt : Nat → wq_W → Prop) (K : Nat → wq_T) : wq_T := (wq_iinc 3 (nI 1) (wq_can [0, 2, 3] (K 9)))
def kt_T_classOf_45 (rt : Option wq_V → wq_W → Prop) (xt : Nat → wq_W → Prop) (K : Nat → wq_T) : wq_T := (wq_iload 3 (wq_istore 2 (kt_T_classOf_47 rt xt K)))
def kh_T_classOf_9 (rt : Option wq_V → wq_W → Prop) (xt : Nat → wq_W → Prop) (K : Nat → wq_T) : wq_T := (wq_iload 3 (wq_aload 0 (wq_get 1 0 (wq_f2 (fun x y => y ≤ x) (kt_T_classOf_53 rt xt K) (wq_aload 0 (wq_iload 3 (wq_call (wq_rv 1 ks_T_inheritFromParent) 2 0 0 0 0 (wq_xout 0 0 xt) (wq_aload 0 (wq_get 1 11 (wq_iload 3 (wq_zald (wq_f1 (fun x => x = 0) (kt_T_classOf_47 rt xt K) (wq_iload 2 (wq_iconst (-1) (wq_f2 (fun x y => x = y) (kt_T_classOf_45 rt xt K) (wq_aload 0 (wq_iload 3 (wq_iload 2 (wq_call (wq_rv 1 ks_T_isAsGood) 3 0 0 0 0 (wq_xout 0 0 xt) (wq_f1 (fun x => x = 0) (kt_T_classOf_47 rt xt K) (kt_T_classOf_45 rt xt K)))))))))))))))))))))
def kt_T_classOf_0 (rt : Option wq_V → wq_W → Prop) (xt : Nat → wq_W → Prop) (K : Nat → wq_T) : wq_T := (wq_aload 0 (wq_iload 1 (wq_call (wq_rv 1 ks_T_judgeByOwnNotes) 2 0 0 0 0 (wq_xout 0 0 xt) (wq_iconst (-1) (wq_istore 2 (wq_iconst (nI 0) (wq_istore 3 (wq_can [0, 2, 3] (K 9)))))))))
def ku_T_classOf (rt : Option wq_V → wq_W → Prop) (xt : Nat → wq_W → Prop) : Nat → Nat → wq_T
  | 0, _ => fun _ _ _ _ _ => False
  | n + 1, pc => cond (Nat.beq pc 9) (kh_T_classOf_9 rt xt (ku_T_classOf rt xt n)) (fun _ _ _ _ _ => False)
def ks_T_classOf : wq_S := wq_sp 4 (fun rt xt => kt_T_classOf_0 rt xt (ku_T_classOf rt xt 1000000000000))
-- BorderDesk$Tariff.isSameOrAbove(II)Z
def kt_T_isSameOrAbove_36 (rt : Option wq_V → wq_W → Prop) (xt : Nat → wq_W → Prop) (K : Nat → wq_T) : wq_T := (wq_iconst (nI 0) (wq_zreturn 0 0 rt))
def kt_T_isSameOrAbove_23 (rt : Option wq_V → wq_W → Prop) (xt : Nat → wq_W → Prop) (K : Nat → wq_T) : wq_T := (wq_aload 0 (wq_get 1 1 (wq_iload 3 (wq_iald (wq_istore 3 (wq_iinc 4 (nI 1) (wq_can [0, 1, 3, 4] (K 5))))))))
def kh_T_isSameOrAbove_5 (rt : Option wq_V → wq_W → Prop) (xt : Nat → wq_W → Prop) (K : Nat → wq_T) : wq_T := (wq_iload 4 (wq_iconst (nI 5) (wq_f2 (fun x y => y < x) (kt_T_isSameOrAbove_36 rt xt K) (wq_iload 3 (wq_iconst (-1) (wq_f2 (fun x y => x = y) (kt_T_isSameOrAbove_36 rt xt K) (wq_iload 3 (wq_iload 1 (wq_f2 (fun x y => x = y) (wq_iconst (nI 1) (wq_zreturn 0 0 rt)) (kt_T_isSameOrAbove_23 rt xt K))))))))))
def kt_T_isSameOrAbove_0 (rt : Option wq_V → wq_W → Prop) (xt : Nat → wq_W → Prop) (K : Nat → wq_T) : wq_T := (wq_iload 2 (wq_istore 3 (wq_iconst (nI 0) (wq_istore 4 (wq_can [0, 1, 3, 4] (K 5))))))
def ku_T_isSameOrAbove (rt : Option wq_V → wq_W → Prop) (xt : Nat → wq_W → Prop) : Nat → Nat → wq_T
  | 0, _ => fun _ _ _ _ _ => False
  | n + 1, pc => cond (Nat.beq pc 5) (kh_T_isSameOrAbove_5 rt xt (ku_T_isSameOrAbove rt xt n)) (fun _ _ _ _ _ => False)
def ks_T_isSameOrAbove : wq_S := wq_sp 5 (fun rt xt => kt_T_isSameOrAbove_0 rt xt (ku_T_isSameOrAbove rt xt 1000000000000))
-- BorderDesk$Tariff.headingWithRule(I)I
def kt_T_headingWithRule_39 (rt : Option wq_V → wq_W → Prop) (xt : Nat → wq_W → Prop) (K : Nat → wq_T) : wq_T := (wq_iconst (-1) (wq_ireturn 0 0 rt))
def kt_T_headingWithRule_26 (rt : Option wq_V → wq_W → Prop) (xt : Nat → wq_W → Prop) (K : Nat → wq_T) : wq_T := (wq_aload 0 (wq_get 1 1 (wq_iload 2 (wq_iald (wq_istore 2 (wq_iinc 3 (nI 1) (wq_can [0, 2, 3] (K 4))))))))
def kh_T_headingWithRule_4 (rt : Option wq_V → wq_W → Prop) (xt : Nat → wq_W → Prop) (K : Nat → wq_T) : wq_T := (wq_iload 3 (wq_iconst (nI 5) (wq_f2 (fun x y => y < x) (kt_T_headingWithRule_39 rt xt K) (wq_iload 2 (wq_iconst (-1) (wq_f2 (fun x y => x = y) (kt_T_headingWithRule_39 rt xt K) (wq_aload 0 (wq_get 1 3 (wq_iload 2 (wq_iald (wq_iconst (-1) (wq_f2 (fun x y => x = y) (kt_T_headingWithRule_26 rt xt K) (wq_iload 2 (wq_ireturn 0 0 rt))))))))))))))
def kt_T_headingWithRule_0 (rt : Option wq_V → wq_W → Prop) (xt : Nat → wq_W → Prop) (K : Nat → wq_T) : wq_T := (wq_iload 1 (wq_istore 2 (wq_iconst (nI 0) (wq_istore 3 (wq_can [0, 2, 3] (K 4))))))
def ku_T_headingWithRule (rt : Option wq_V → wq_W → Prop) (xt : Nat → wq_W → Prop) : Nat → Nat → wq_T
  | 0, _ => fun _ _ _ _ _ => False
  | n + 1, pc => cond (Nat.beq pc 4) (kh_T_headingWithRule_4 rt xt (ku_T_headingWithRule rt xt n)) (fun _ _ _ _ _ => False)
def ks_T_headingWithRule : wq_S := wq_sp 4 (fun rt xt => kt_T_headingWithRule_0 rt xt (ku_T_headingWithRule rt xt 1000000000000))
