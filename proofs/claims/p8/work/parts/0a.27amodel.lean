-- BorderDeskModel.thrown()I
def kt_M_thrown_0 (rt : Option wq_V → wq_W → Prop) (xt : Nat → wq_W → Prop) : wq_T := (wq_aload 0 (wq_get 9 0 (wq_ireturn 0 0 rt)))
def ks_M_thrown : wq_S := wq_sp 1 (fun rt xt => kt_M_thrown_0 rt xt)
-- BorderDeskModel.within(III)Z
def kt_M_within_15 (rt : Option wq_V → wq_W → Prop) (xt : Nat → wq_W → Prop) : wq_T := (wq_zreturn 0 0 rt)
def kt_M_within_14 (rt : Option wq_V → wq_W → Prop) (xt : Nat → wq_W → Prop) : wq_T := (wq_iconst (nI 0) (kt_M_within_15 rt xt))
def kt_M_within_0 (rt : Option wq_V → wq_W → Prop) (xt : Nat → wq_W → Prop) : wq_T := (wq_iload 0 (wq_iload 1 (wq_f2 (fun x y => x < y) (kt_M_within_14 rt xt) (wq_iload 0 (wq_iload 2 (wq_f2 (fun x y => y < x) (kt_M_within_14 rt xt) (wq_iconst (nI 1) (kt_M_within_15 rt xt))))))))
def ks_M_within : wq_S := wq_sp 3 (fun rt xt => kt_M_within_0 rt xt)
-- BorderDeskModel.isHeading(I)Z
def kt_M_isHeading_17 (rt : Option wq_V → wq_W → Prop) (xt : Nat → wq_W → Prop) : wq_T := (wq_zreturn 0 0 rt)
def kt_M_isHeading_16 (rt : Option wq_V → wq_W → Prop) (xt : Nat → wq_W → Prop) : wq_T := (wq_iconst (nI 0) (kt_M_isHeading_17 rt xt))
def kt_M_isHeading_0 (rt : Option wq_V → wq_W → Prop) (xt : Nat → wq_W → Prop) : wq_T := (wq_iload 1 (wq_f1 (fun x => x < 0) (kt_M_isHeading_16 rt xt) (wq_iload 1 (wq_aload 0 (wq_get 9 1 (wq_f2 (fun x y => y ≤ x) (kt_M_isHeading_16 rt xt) (wq_iconst (nI 1) (kt_M_isHeading_17 rt xt))))))))
def ks_M_isHeading : wq_S := wq_sp 2 (fun rt xt => kt_M_isHeading_0 rt xt)
-- BorderDeskModel.depthOf(I)I
def kt_M_depthOf_26 (rt : Option wq_V → wq_W → Prop) (xt : Nat → wq_W → Prop) (K : Nat → wq_T) : wq_T := (wq_iload 2 (wq_ireturn 0 0 rt))
def kh_M_depthOf_9 (rt : Option wq_V → wq_W → Prop) (xt : Nat → wq_W → Prop) (K : Nat → wq_T) : wq_T := (wq_iload 3 (wq_f1 (fun x => x < 0) (kt_M_depthOf_26 rt xt K) (wq_iinc 2 (nI 1) (wq_aload 0 (wq_get 9 2 (wq_iload 3 (wq_iald (wq_istore 3 (wq_can [0, 2, 3] (K 9))))))))))
def kt_M_depthOf_0 (rt : Option wq_V → wq_W → Prop) (xt : Nat → wq_W → Prop) (K : Nat → wq_T) : wq_T := (wq_iconst (nI 0) (wq_istore 2 (wq_aload 0 (wq_get 9 2 (wq_iload 1 (wq_iald (wq_istore 3 (wq_can [0, 2, 3] (K 9)))))))))
def ku_M_depthOf (rt : Option wq_V → wq_W → Prop) (xt : Nat → wq_W → Prop) : Nat → Nat → wq_T
  | 0, _ => fun _ _ _ _ _ => False
  | n + 1, pc => cond (Nat.beq pc 9) (kh_M_depthOf_9 rt xt (ku_M_depthOf rt xt n)) (fun _ _ _ _ _ => False)
def ks_M_depthOf : wq_S := wq_sp 4 (fun rt xt => kt_M_depthOf_0 rt xt (ku_M_depthOf rt xt 1000000000000))
-- BorderDeskModel.isUnder(II)Z
def kt_M_isUnder_30 (rt : Option wq_V → wq_W → Prop) (xt : Nat → wq_W → Prop) (K : Nat → wq_T) : wq_T := (wq_zreturn 0 0 rt)
def kt_M_isUnder_29 (rt : Option wq_V → wq_W → Prop) (xt : Nat → wq_W → Prop) (K : Nat → wq_T) : wq_T := (wq_iconst (nI 0) (kt_M_isUnder_30 rt xt K))
def kt_M_isUnder_21 (rt : Option wq_V → wq_W → Prop) (xt : Nat → wq_W → Prop) (K : Nat → wq_T) : wq_T := (wq_iload 3 (wq_f1 (fun x => x < 0) (kt_M_isUnder_29 rt xt K) (wq_iconst (nI 1) (kt_M_isUnder_30 rt xt K))))
def kh_M_isUnder_2 (rt : Option wq_V → wq_W → Prop) (xt : Nat → wq_W → Prop) (K : Nat → wq_T) : wq_T := (wq_iload 3 (wq_f1 (fun x => x < 0) (kt_M_isUnder_21 rt xt K) (wq_iload 3 (wq_iload 2 (wq_f2 (fun x y => x = y) (kt_M_isUnder_21 rt xt K) (wq_aload 0 (wq_get 9 2 (wq_iload 3 (wq_iald (wq_istore 3 (wq_can [0, 2, 3] (K 2))))))))))))
def kt_M_isUnder_0 (rt : Option wq_V → wq_W → Prop) (xt : Nat → wq_W → Prop) (K : Nat → wq_T) : wq_T := (wq_iload 1 (wq_istore 3 (wq_can [0, 2, 3] (K 2))))
def ku_M_isUnder (rt : Option wq_V → wq_W → Prop) (xt : Nat → wq_W → Prop) : Nat → Nat → wq_T
  | 0, _ => fun _ _ _ _ _ => False
  | n + 1, pc => cond (Nat.beq pc 2) (kh_M_isUnder_2 rt xt (ku_M_isUnder rt xt n)) (fun _ _ _ _ _ => False)
def ks_M_isUnder : wq_S := wq_sp 4 (fun rt xt => kt_M_isUnder_0 rt xt (ku_M_isUnder rt xt 1000000000000))
-- BorderDeskModel.holds(II)Z
def kt_M_holds_113 (rt : Option wq_V → wq_W → Prop) (xt : Nat → wq_W → Prop) (K : Nat → wq_T) : wq_T := (wq_iload 4 (wq_zreturn 0 0 rt))
def kt_M_holds_105 (rt : Option wq_V → wq_W → Prop) (xt : Nat → wq_W → Prop) (K : Nat → wq_T) : wq_T := (wq_istore 4 (wq_iinc 5 (nI 1) (wq_can [0, 1, 2, 3, 4, 5] (K 63))))
def kt_M_holds_104 (rt : Option wq_V → wq_W → Prop) (xt : Nat → wq_W → Prop) (K : Nat → wq_T) : wq_T := (wq_iconst (nI 0) (kt_M_holds_105 rt xt K))
def kh_M_holds_63 (rt : Option wq_V → wq_W → Prop) (xt : Nat → wq_W → Prop) (K : Nat → wq_T) : wq_T := (wq_iload 5 (wq_iconst (nI 4) (wq_f2 (fun x y => y ≤ x) (kt_M_holds_113 rt xt K) (wq_aload 0 (wq_get 9 7 (wq_iload 1 (wq_iald (wq_iconst (nI 2) (wq_f2 (fun x y => x = y) (wq_iload 4 (wq_f1 (fun x => x = 0) (kt_M_holds_104 rt xt K) (wq_aload 0 (wq_get 9 26 (wq_iconst (nI 8) (wq_iload 2 (wq_i2 (fun x y => x * y) (wq_iload 5 (wq_i2 (fun x y => x + y) (wq_iald (wq_iload 3 (wq_f2 (fun x y => y < x) (kt_M_holds_104 rt xt K) (wq_iconst (nI 1) (kt_M_holds_105 rt xt K)))))))))))))) (kt_M_holds_113 rt xt K))))))))))
def kt_M_holds_58 (rt : Option wq_V → wq_W → Prop) (xt : Nat → wq_W → Prop) (K : Nat → wq_T) : wq_T := (wq_istore 4 (wq_iconst (nI 0) (wq_istore 5 (wq_can [0, 1, 2, 3, 4, 5] (K 63)))))
def kt_M_holds_57 (rt : Option wq_V → wq_W → Prop) (xt : Nat → wq_W → Prop) (K : Nat → wq_T) : wq_T := (wq_iconst (nI 0) (kt_M_holds_58 rt xt K))
def kt_M_holds_43 (rt : Option wq_V → wq_W → Prop) (xt : Nat → wq_W → Prop) (K : Nat → wq_T) : wq_T := (wq_iload 3 (wq_aload 0 (wq_get 9 9 (wq_iload 1 (wq_iald (wq_f2 (fun x y => x < y) (kt_M_holds_57 rt xt K) (wq_iconst (nI 1) (kt_M_holds_58 rt xt K))))))))
def kt_M_holds_42 (rt : Option wq_V → wq_W → Prop) (xt : Nat → wq_W → Prop) (K : Nat → wq_T) : wq_T := (wq_zreturn 0 0 rt)
def kt_M_holds_41 (rt : Option wq_V → wq_W → Prop) (xt : Nat → wq_W → Prop) (K : Nat → wq_T) : wq_T := (wq_iconst (nI 0) (kt_M_holds_42 rt xt K))
def kt_M_holds_0 (rt : Option wq_V → wq_W → Prop) (xt : Nat → wq_W → Prop) (K : Nat → wq_T) : wq_T := (wq_aload 0 (wq_get 9 26 (wq_iconst (nI 8) (wq_iload 2 (wq_i2 (fun x y => x * y) (wq_aload 0 (wq_get 9 8 (wq_iload 1 (wq_iald (wq_i2 (fun x y => x + y) (wq_iald (wq_istore 3 (wq_aload 0 (wq_get 9 7 (wq_iload 1 (wq_iald (wq_iconst (nI 1) (wq_f2 (fun x y => x = y) (wq_iload 3 (wq_aload 0 (wq_get 9 9 (wq_iload 1 (wq_iald (wq_f2 (fun x y => y ≤ x) (kt_M_holds_41 rt xt K) (wq_iconst (nI 1) (kt_M_holds_42 rt xt K)))))))) (kt_M_holds_43 rt xt K)))))))))))))))))))
def ku_M_holds (rt : Option wq_V → wq_W → Prop) (xt : Nat → wq_W → Prop) : Nat → Nat → wq_T
  | 0, _ => fun _ _ _ _ _ => False
  | n + 1, pc => cond (Nat.beq pc 63) (kh_M_holds_63 rt xt (ku_M_holds rt xt n)) (fun _ _ _ _ _ => False)
def ks_M_holds : wq_S := wq_sp 6 (fun rt xt => kt_M_holds_0 rt xt (ku_M_holds rt xt 1000000000000))
-- BorderDeskModel.fits(II)Z
def kt_M_fits_55 (rt : Option wq_V → wq_W → Prop) (xt : Nat → wq_W → Prop) (K : Nat → wq_T) : wq_T := (wq_iload 3 (wq_zreturn 0 0 rt))
def kt_M_fits_48 (rt : Option wq_V → wq_W → Prop) (xt : Nat → wq_W → Prop) (K : Nat → wq_T) : wq_T := (wq_istore 3 (wq_iinc 4 (nI 1) (wq_can [0, 1, 2, 3, 4] (K 5))))
def kt_M_fits_47 (rt : Option wq_V → wq_W → Prop) (xt : Nat → wq_W → Prop) (K : Nat → wq_T) : wq_T := (wq_iconst (nI 0) (kt_M_fits_48 rt xt K))
def kt_M_fits_43 (rt : Option wq_V → wq_W → Prop) (xt : Nat → wq_W → Prop) (K : Nat → wq_T) : wq_T := (wq_iconst (nI 1) (kt_M_fits_48 rt xt K))
def kh_M_fits_5 (rt : Option wq_V → wq_W → Prop) (xt : Nat → wq_W → Prop) (K : Nat → wq_T) : wq_T := (wq_iload 4 (wq_aload 0 (wq_get 9 5 (wq_f2 (fun x y => y ≤ x) (kt_M_fits_55 rt xt K) (wq_iload 3 (wq_f1 (fun x => x = 0) (kt_M_fits_47 rt xt K) (wq_aload 0 (wq_iload 1 (wq_aload 0 (wq_get 9 6 (wq_iload 4 (wq_iald (wq_call (wq_rv 9 ks_M_isUnder) 3 0 0 0 0 (wq_xout 0 0 xt) (wq_f1 (fun x => x = 0) (kt_M_fits_43 rt xt K) (wq_aload 0 (wq_iload 4 (wq_iload 2 (wq_call (wq_rv 9 ks_M_holds) 3 0 0 0 0 (wq_xout 0 0 xt) (wq_f1 (fun x => x = 0) (kt_M_fits_47 rt xt K) (kt_M_fits_43 rt xt K))))))))))))))))))))
def kt_M_fits_0 (rt : Option wq_V → wq_W → Prop) (xt : Nat → wq_W → Prop) (K : Nat → wq_T) : wq_T := (wq_iconst (nI 1) (wq_istore 3 (wq_iconst (nI 0) (wq_istore 4 (wq_can [0, 1, 2, 3, 4] (K 5))))))
def ku_M_fits (rt : Option wq_V → wq_W → Prop) (xt : Nat → wq_W → Prop) : Nat → Nat → wq_T
  | 0, _ => fun _ _ _ _ _ => False
  | n + 1, pc => cond (Nat.beq pc 5) (kh_M_fits_5 rt xt (ku_M_fits rt xt n)) (fun _ _ _ _ _ => False)
def ks_M_fits : wq_S := wq_sp 5 (fun rt xt => kt_M_fits_0 rt xt (ku_M_fits rt xt 1000000000000))
-- BorderDeskModel.shareOf(II)I
def kt_M_shareOf_78 (rt : Option wq_V → wq_W → Prop) (xt : Nat → wq_W → Prop) (K : Nat → wq_T) : wq_T := (wq_iload 3 (wq_ireturn 0 0 rt))
def kt_M_shareOf_71 (rt : Option wq_V → wq_W → Prop) (xt : Nat → wq_W → Prop) (K : Nat → wq_T) : wq_T := (wq_istore 3 (wq_iinc 4 (nI 1) (wq_can [0, 1, 2, 3, 4] (K 5))))
def kt_M_shareOf_70 (rt : Option wq_V → wq_W → Prop) (xt : Nat → wq_W → Prop) (K : Nat → wq_T) : wq_T := (wq_iload 3 (kt_M_shareOf_71 rt xt K))
def kh_M_shareOf_5 (rt : Option wq_V → wq_W → Prop) (xt : Nat → wq_W → Prop) (K : Nat → wq_T) : wq_T := (wq_iload 4 (wq_aload 0 (wq_get 9 5 (wq_f2 (fun x y => y ≤ x) (kt_M_shareOf_78 rt xt K) (wq_aload 0 (wq_get 9 26 (wq_iconst (nI 8) (wq_iload 2 (wq_i2 (fun x y => x * y) (wq_aload 0 (wq_get 9 8 (wq_iload 4 (wq_iald (wq_i2 (fun x y => x + y) (wq_iald (wq_istore 5 (wq_aload 0 (wq_get 9 7 (wq_iload 4 (wq_iald (wq_iconst (nI 2) (wq_f2 (fun x y => x = y) (wq_aload 0 (wq_iload 1 (wq_aload 0 (wq_get 9 6 (wq_iload 4 (wq_iald (wq_call (wq_rv 9 ks_M_isUnder) 3 0 0 0 0 (wq_xout 0 0 xt) (wq_f1 (fun x => x = 0) (kt_M_shareOf_70 rt xt K) (wq_iload 5 (wq_iload 3 (wq_f2 (fun x y => x ≤ y) (kt_M_shareOf_70 rt xt K) (wq_iload 5 (kt_M_shareOf_71 rt xt K))))))))))))) (kt_M_shareOf_70 rt xt K)))))))))))))))))))))))
def kt_M_shareOf_0 (rt : Option wq_V → wq_W → Prop) (xt : Nat → wq_W → Prop) (K : Nat → wq_T) : wq_T := (wq_iconst (nI 0) (wq_istore 3 (wq_iconst (nI 0) (wq_istore 4 (wq_can [0, 1, 2, 3, 4] (K 5))))))
def ku_M_shareOf (rt : Option wq_V → wq_W → Prop) (xt : Nat → wq_W → Prop) : Nat → Nat → wq_T
  | 0, _ => fun _ _ _ _ _ => False
  | n + 1, pc => cond (Nat.beq pc 5) (kh_M_shareOf_5 rt xt (ku_M_shareOf rt xt n)) (fun _ _ _ _ _ => False)
def ks_M_shareOf : wq_S := wq_sp 6 (fun rt xt => kt_M_shareOf_0 rt xt (ku_M_shareOf rt xt 1000000000000))
-- BorderDeskModel.classOf(I)I
def kt_M_classOf_79 (rt : Option wq_V → wq_W → Prop) (xt : Nat → wq_W → Prop) (K : Nat → wq_T) : wq_T := (wq_iload 2 (wq_ireturn 0 0 rt))
def kt_M_classOf_73 (rt : Option wq_V → wq_W → Prop) (xt : Nat → wq_W → Prop) (K : Nat → wq_T) : wq_T := (wq_iinc 3 (nI 1) (wq_can [0, 1, 2, 3] (K 4)))
def kt_M_classOf_72 (rt : Option wq_V → wq_W → Prop) (xt : Nat → wq_W → Prop) (K : Nat → wq_T) : wq_T := (wq_istore 2 (kt_M_classOf_73 rt xt K))
def kt_M_classOf_67 (rt : Option wq_V → wq_W → Prop) (xt : Nat → wq_W → Prop) (K : Nat → wq_T) : wq_T := (wq_iload 3 (kt_M_classOf_72 rt xt K))
def kt_M_classOf_71 (rt : Option wq_V → wq_W → Prop) (xt : Nat → wq_W → Prop) (K : Nat → wq_T) : wq_T := (wq_iload 2 (kt_M_classOf_72 rt xt K))
def kt_M_classOf_40 (rt : Option wq_V → wq_W → Prop) (xt : Nat → wq_W → Prop) (K : Nat → wq_T) : wq_T := (wq_istore 4 (wq_iload 4 (wq_f1 (fun x => 0 < x) (kt_M_classOf_67 rt xt K) (wq_iload 4 (wq_f1 (fun x => x = 0) (wq_aload 0 (wq_iload 3 (wq_iload 1 (wq_call (wq_rv 9 ks_M_shareOf) 3 0 0 0 0 (wq_xout 0 0 xt) (wq_aload 0 (wq_iload 2 (wq_iload 1 (wq_call (wq_rv 9 ks_M_shareOf) 3 0 0 0 0 (wq_xout 0 0 xt) (wq_f2 (fun x y => x < y) (kt_M_classOf_71 rt xt K) (kt_M_classOf_67 rt xt K)))))))))) (kt_M_classOf_71 rt xt K))))))
def kt_M_classOf_29 (rt : Option wq_V → wq_W → Prop) (xt : Nat → wq_W → Prop) (K : Nat → wq_T) : wq_T := (wq_aload 0 (wq_iload 3 (wq_call (wq_rv 9 ks_M_depthOf) 2 0 0 0 0 (wq_xout 0 0 xt) (wq_aload 0 (wq_iload 2 (wq_call (wq_rv 9 ks_M_depthOf) 2 0 0 0 0 (wq_xout 0 0 xt) (wq_i2 (fun x y => x - y) (kt_M_classOf_40 rt xt K))))))))
def kh_M_classOf_4 (rt : Option wq_V → wq_W → Prop) (xt : Nat → wq_W → Prop) (K : Nat → wq_T) : wq_T := (wq_iload 3 (wq_aload 0 (wq_get 9 1 (wq_f2 (fun x y => y ≤ x) (kt_M_classOf_79 rt xt K) (wq_aload 0 (wq_iload 3 (wq_iload 1 (wq_call (wq_rv 9 ks_M_fits) 3 0 0 0 0 (wq_xout 0 0 xt) (wq_f1 (fun x => x = 0) (kt_M_classOf_73 rt xt K) (wq_iload 2 (wq_f1 (fun x => 0 ≤ x) (kt_M_classOf_29 rt xt K) (wq_iconst (nI 1) (kt_M_classOf_40 rt xt K)))))))))))))
def kt_M_classOf_0 (rt : Option wq_V → wq_W → Prop) (xt : Nat → wq_W → Prop) (K : Nat → wq_T) : wq_T := (wq_iconst (-1) (wq_istore 2 (wq_iconst (nI 0) (wq_istore 3 (wq_can [0, 1, 2, 3] (K 4))))))
def ku_M_classOf (rt : Option wq_V → wq_W → Prop) (xt : Nat → wq_W → Prop) : Nat → Nat → wq_T
  | 0, _ => fun _ _ _ _ _ => False
  | n + 1, pc => cond (Nat.beq pc 4) (kh_M_classOf_4 rt xt (ku_M_classOf rt xt n)) (fun _ _ _ _ _ => False)
def ks_M_classOf : wq_S := wq_sp 5 (fun rt xt => kt_M_classOf_0 rt xt (ku_M_classOf rt xt 1000000000000))
-- BorderDeskModel.heading(I)I
def kt_M_heading_57 (rt : Option wq_V → wq_W → Prop) (xt : Nat → wq_W → Prop) : wq_T := (wq_aload 0 (wq_get 9 2 (wq_aload 0 (wq_get 9 1 (wq_iload 1 (wq_iast (wq_aload 0 (wq_get 9 3 (wq_aload 0 (wq_get 9 1 (wq_iconst (-1) (wq_iast (wq_aload 0 (wq_dup (wq_get 9 1 (wq_iconst (nI 1) (wq_i2 (fun x y => x + y) (wq_put 9 1 wq_isI (wq_aload 0 (wq_get 9 1 (wq_iconst (nI 1) (wq_i2 (fun x y => x - y) (wq_ireturn 0 0 rt)))))))))))))))))))))))
def kt_M_heading_45 (rt : Option wq_V → wq_W → Prop) (xt : Nat → wq_W → Prop) : wq_T := (wq_put 9 0 wq_isI (wq_aload 0 (wq_get 9 0 (wq_f1 (fun x => x ≤ 0) (kt_M_heading_57 rt xt) (wq_iconst (nI 0) (wq_ireturn 0 0 rt))))))
def kt_M_heading_40 (rt : Option wq_V → wq_W → Prop) (xt : Nat → wq_W → Prop) : wq_T := (wq_iconst (nI 2) (kt_M_heading_45 rt xt))
def kt_M_heading_44 (rt : Option wq_V → wq_W → Prop) (xt : Nat → wq_W → Prop) : wq_T := (wq_iconst (nI 0) (kt_M_heading_45 rt xt))
def kt_M_heading_18 (rt : Option wq_V → wq_W → Prop) (xt : Nat → wq_W → Prop) : wq_T := (wq_aload 0 (wq_get 9 1 (wq_iconst (nI 24) (wq_f2 (fun x y => x = y) (kt_M_heading_40 rt xt) (wq_iload 1 (wq_f1 (fun x => x < 0) (kt_M_heading_44 rt xt) (wq_aload 0 (wq_iload 1 (wq_call (wq_rv 9 ks_M_depthOf) 2 0 0 0 0 (wq_xout 0 0 xt) (wq_iconst (nI 5) (wq_f2 (fun x y => x = y) (kt_M_heading_40 rt xt) (kt_M_heading_44 rt xt))))))))))))
def kt_M_heading_0 (rt : Option wq_V → wq_W → Prop) (xt : Nat → wq_W → Prop) : wq_T := (wq_aload 0 (wq_iload 1 (wq_iconst (-1) (wq_f2 (fun x y => x = y) (kt_M_heading_18 rt xt) (wq_aload 0 (wq_iload 1 (wq_call (wq_rv 9 ks_M_isHeading) 2 0 0 0 0 (wq_xout 0 0 xt) (wq_f1 (fun x => x = 0) (wq_iconst (nI 1) (kt_M_heading_45 rt xt)) (kt_M_heading_18 rt xt)))))))))
def ks_M_heading : wq_S := wq_sp 2 (fun rt xt => kt_M_heading_0 rt xt)
-- BorderDeskModel.note(IIII)I
def kt_M_note_91 (rt : Option wq_V → wq_W → Prop) (xt : Nat → wq_W → Prop) : wq_T := (wq_aload 0 (wq_get 9 6 (wq_aload 0 (wq_get 9 5 (wq_iload 1 (wq_iast (wq_aload 0 (wq_get 9 7 (wq_aload 0 (wq_get 9 5 (wq_iload 2 (wq_iast (wq_aload 0 (wq_get 9 8 (wq_aload 0 (wq_get 9 5 (wq_iload 3 (wq_iast (wq_aload 0 (wq_get 9 9 (wq_aload 0 (wq_get 9 5 (wq_iload 4 (wq_iast (wq_aload 0 (wq_dup (wq_get 9 5 (wq_iconst (nI 1) (wq_i2 (fun x y => x + y) (wq_put 9 5 wq_isI (wq_aload 0 (wq_get 9 5 (wq_iconst (nI 1) (wq_i2 (fun x y => x - y) (wq_ireturn 0 0 rt)))))))))))))))))))))))))))))))))))
def kt_M_note_79 (rt : Option wq_V → wq_W → Prop) (xt : Nat → wq_W → Prop) : wq_T := (wq_put 9 0 wq_isI (wq_aload 0 (wq_get 9 0 (wq_f1 (fun x => x ≤ 0) (kt_M_note_91 rt xt) (wq_iconst (nI 0) (wq_ireturn 0 0 rt))))))
def kt_M_note_78 (rt : Option wq_V → wq_W → Prop) (xt : Nat → wq_W → Prop) : wq_T := (wq_iconst (nI 0) (kt_M_note_79 rt xt))
def kt_M_note_65 (rt : Option wq_V → wq_W → Prop) (xt : Nat → wq_W → Prop) : wq_T := (wq_aload 0 (wq_get 9 5 (wq_iconst (nI 40) (wq_f2 (fun x y => x = y) (wq_iconst (nI 2) (kt_M_note_79 rt xt)) (kt_M_note_78 rt xt)))))
def kt_M_note_53 (rt : Option wq_V → wq_W → Prop) (xt : Nat → wq_W → Prop) : wq_T := (wq_istore 5 (wq_aload 0 (wq_iload 5 (wq_f1 (fun x => x = 0) (wq_iconst (nI 1) (kt_M_note_79 rt xt)) (kt_M_note_65 rt xt)))))
def kt_M_note_52 (rt : Option wq_V → wq_W → Prop) (xt : Nat → wq_W → Prop) : wq_T := (wq_iconst (nI 0) (kt_M_note_53 rt xt))
def kt_M_note_30 (rt : Option wq_V → wq_W → Prop) (xt : Nat → wq_W → Prop) : wq_T := (wq_call ks_M_within 3 0 0 0 0 (wq_xout 0 0 xt) (wq_f1 (fun x => x = 0) (kt_M_note_52 rt xt) (wq_iload 4 (wq_iconst (nI 1) (wq_iconst (nI 1000) (wq_call ks_M_within 3 0 0 0 0 (wq_xout 0 0 xt) (wq_f1 (fun x => x = 0) (kt_M_note_52 rt xt) (wq_iconst (nI 1) (kt_M_note_53 rt xt)))))))))
def kt_M_note_28 (rt : Option wq_V → wq_W → Prop) (xt : Nat → wq_W → Prop) : wq_T := (wq_iconst (nI 7) (kt_M_note_30 rt xt))
def kt_M_note_0 (rt : Option wq_V → wq_W → Prop) (xt : Nat → wq_W → Prop) : wq_T := (wq_aload 0 (wq_iload 1 (wq_call (wq_rv 9 ks_M_isHeading) 2 0 0 0 0 (wq_xout 0 0 xt) (wq_f1 (fun x => x = 0) (kt_M_note_52 rt xt) (wq_iload 2 (wq_iconst (nI 0) (wq_iconst (nI 2) (wq_call ks_M_within 3 0 0 0 0 (wq_xout 0 0 xt) (wq_f1 (fun x => x = 0) (kt_M_note_52 rt xt) (wq_iload 3 (wq_iconst (nI 0) (wq_iload 2 (wq_iconst (nI 2) (wq_f2 (fun x y => x = y) (wq_iconst (nI 3) (kt_M_note_30 rt xt)) (kt_M_note_28 rt xt)))))))))))))))
def ks_M_note : wq_S := wq_sp 6 (fun rt xt => kt_M_note_0 rt xt)
-- BorderDeskModel.fact(III)I
def kt_M_fact_49 (rt : Option wq_V → wq_W → Prop) (xt : Nat → wq_W → Prop) : wq_T := (wq_aload 0 (wq_get 9 26 (wq_iconst (nI 8) (wq_iload 1 (wq_i2 (fun x y => x * y) (wq_iload 2 (wq_i2 (fun x y => x + y) (wq_iald (wq_istore 4 (wq_aload 0 (wq_get 9 26 (wq_iconst (nI 8) (wq_iload 1 (wq_i2 (fun x y => x * y) (wq_iload 2 (wq_i2 (fun x y => x + y) (wq_iload 3 (wq_iast (wq_iload 4 (wq_ireturn 0 0 rt))))))))))))))))))))
def kt_M_fact_37 (rt : Option wq_V → wq_W → Prop) (xt : Nat → wq_W → Prop) : wq_T := (wq_put 9 0 wq_isI (wq_aload 0 (wq_get 9 0 (wq_f1 (fun x => x ≤ 0) (kt_M_fact_49 rt xt) (wq_iconst (nI 0) (wq_ireturn 0 0 rt))))))
def kt_M_fact_36 (rt : Option wq_V → wq_W → Prop) (xt : Nat → wq_W → Prop) : wq_T := (wq_iconst (nI 1) (kt_M_fact_37 rt xt))
def kt_M_fact_0 (rt : Option wq_V → wq_W → Prop) (xt : Nat → wq_W → Prop) : wq_T := (wq_aload 0 (wq_iload 1 (wq_iconst (nI 0) (wq_iconst (nI 15) (wq_call ks_M_within 3 0 0 0 0 (wq_xout 0 0 xt) (wq_f1 (fun x => x = 0) (kt_M_fact_36 rt xt) (wq_iload 2 (wq_iconst (nI 0) (wq_iconst (nI 7) (wq_call ks_M_within 3 0 0 0 0 (wq_xout 0 0 xt) (wq_f1 (fun x => x = 0) (kt_M_fact_36 rt xt) (wq_iload 3 (wq_iconst (nI 0) (wq_iconst (nI 1000) (wq_call ks_M_within 3 0 0 0 0 (wq_xout 0 0 xt) (wq_f1 (fun x => x = 0) (kt_M_fact_36 rt xt) (wq_iconst (nI 0) (kt_M_fact_37 rt xt))))))))))))))))))
def ks_M_fact : wq_S := wq_sp 5 (fun rt xt => kt_M_fact_0 rt xt)
-- BorderDeskModel.classify(I)I
def kt_M_classify_35 (rt : Option wq_V → wq_W → Prop) (xt : Nat → wq_W → Prop) : wq_T := (wq_ireturn 0 0 rt)
def kt_M_classify_30 (rt : Option wq_V → wq_W → Prop) (xt : Nat → wq_W → Prop) : wq_T := (wq_aload 0 (wq_iload 1 (wq_call (wq_rv 9 ks_M_classOf) 2 0 0 0 0 (wq_xout 0 0 xt) (kt_M_classify_35 rt xt))))
def kt_M_classify_16 (rt : Option wq_V → wq_W → Prop) (xt : Nat → wq_W → Prop) : wq_T := (wq_put 9 0 wq_isI (wq_aload 0 (wq_get 9 0 (wq_f1 (fun x => x ≤ 0) (kt_M_classify_30 rt xt) (wq_iconst (nI 0) (kt_M_classify_35 rt xt))))))
def kt_M_classify_15 (rt : Option wq_V → wq_W → Prop) (xt : Nat → wq_W → Prop) : wq_T := (wq_iconst (nI 1) (kt_M_classify_16 rt xt))
def kt_M_classify_0 (rt : Option wq_V → wq_W → Prop) (xt : Nat → wq_W → Prop) : wq_T := (wq_aload 0 (wq_iload 1 (wq_iconst (nI 0) (wq_iconst (nI 15) (wq_call ks_M_within 3 0 0 0 0 (wq_xout 0 0 xt) (wq_f1 (fun x => x = 0) (kt_M_classify_15 rt xt) (wq_iconst (nI 0) (kt_M_classify_16 rt xt))))))))
def ks_M_classify : wq_S := wq_sp 2 (fun rt xt => kt_M_classify_0 rt xt)
-- BorderDeskModel.rate(IIIIIII)I
def kt_M_rate_114 (rt : Option wq_V → wq_W → Prop) (xt : Nat → wq_W → Prop) : wq_T := (wq_aload 0 (wq_get 9 11 (wq_aload 0 (wq_get 9 10 (wq_iload 1 (wq_iast (wq_aload 0 (wq_get 9 12 (wq_aload 0 (wq_get 9 10 (wq_iload 2 (wq_iast (wq_aload 0 (wq_get 9 13 (wq_aload 0 (wq_get 9 10 (wq_iload 3 (wq_iast (wq_aload 0 (wq_get 9 14 (wq_aload 0 (wq_get 9 10 (wq_iload 4 (wq_iast (wq_aload 0 (wq_get 9 15 (wq_aload 0 (wq_get 9 10 (wq_iload 5 (wq_iast (wq_aload 0 (wq_get 9 16 (wq_aload 0 (wq_get 9 10 (wq_iload 6 (wq_iast (wq_aload 0 (wq_get 9 17 (wq_aload 0 (wq_get 9 10 (wq_iload 7 (wq_iast (wq_aload 0 (wq_dup (wq_get 9 10 (wq_iconst (nI 1) (wq_i2 (fun x y => x + y) (wq_put 9 10 wq_isI (wq_aload 0 (wq_get 9 10 (wq_iconst (nI 1) (wq_i2 (fun x y => x - y) (wq_ireturn 0 0 rt)))))))))))))))))))))))))))))))))))))))))))))))))))))
def kt_M_rate_102 (rt : Option wq_V → wq_W → Prop) (xt : Nat → wq_W → Prop) : wq_T := (wq_put 9 0 wq_isI (wq_aload 0 (wq_get 9 0 (wq_f1 (fun x => x ≤ 0) (kt_M_rate_114 rt xt) (wq_iconst (nI 0) (wq_ireturn 0 0 rt))))))
def kt_M_rate_84 (rt : Option wq_V → wq_W → Prop) (xt : Nat → wq_W → Prop) : wq_T := (wq_iconst (nI 1) (kt_M_rate_102 rt xt))
def kt_M_rate_101 (rt : Option wq_V → wq_W → Prop) (xt : Nat → wq_W → Prop) : wq_T := (wq_iconst (nI 0) (kt_M_rate_102 rt xt))
def kt_M_rate_88 (rt : Option wq_V → wq_W → Prop) (xt : Nat → wq_W → Prop) : wq_T := (wq_aload 0 (wq_get 9 10 (wq_iconst (nI 40) (wq_f2 (fun x y => x = y) (wq_iconst (nI 2) (kt_M_rate_102 rt xt)) (kt_M_rate_101 rt xt)))))
def kt_M_rate_56 (rt : Option wq_V → wq_W → Prop) (xt : Nat → wq_W → Prop) : wq_T := (wq_istore 8 (wq_aload 0 (wq_iload 8 (wq_f1 (fun x => x = 0) (kt_M_rate_84 rt xt) (wq_iload 6 (wq_f1 (fun x => x < 0) (kt_M_rate_84 rt xt) (wq_iload 6 (wq_iload 7 (wq_f2 (fun x y => y < x) (kt_M_rate_84 rt xt) (wq_iload 7 (wq_iconst (nI 9999) (wq_f2 (fun x y => x ≤ y) (kt_M_rate_88 rt xt) (kt_M_rate_84 rt xt)))))))))))))
def kt_M_rate_55 (rt : Option wq_V → wq_W → Prop) (xt : Nat → wq_W → Prop) : wq_T := (wq_iconst (nI 0) (kt_M_rate_56 rt xt))
def kt_M_rate_0 (rt : Option wq_V → wq_W → Prop) (xt : Nat → wq_W → Prop) : wq_T := (wq_aload 0 (wq_iload 1 (wq_call (wq_rv 9 ks_M_isHeading) 2 0 0 0 0 (wq_xout 0 0 xt) (wq_f1 (fun x => x = 0) (kt_M_rate_55 rt xt) (wq_iload 2 (wq_iconst (-1) (wq_iconst (nI 7) (wq_call ks_M_within 3 0 0 0 0 (wq_xout 0 0 xt) (wq_f1 (fun x => x = 0) (kt_M_rate_55 rt xt) (wq_iload 3 (wq_iconst (nI 0) (wq_iconst (nI 3) (wq_call ks_M_within 3 0 0 0 0 (wq_xout 0 0 xt) (wq_f1 (fun x => x = 0) (kt_M_rate_55 rt xt) (wq_iload 4 (wq_iconst (nI 0) (wq_iconst (nI 10000) (wq_call ks_M_within 3 0 0 0 0 (wq_xout 0 0 xt) (wq_f1 (fun x => x = 0) (kt_M_rate_55 rt xt) (wq_iload 5 (wq_iconst (nI 0) (wq_iconst (nI 10000) (wq_call ks_M_within 3 0 0 0 0 (wq_xout 0 0 xt) (wq_f1 (fun x => x = 0) (kt_M_rate_55 rt xt) (wq_iconst (nI 1) (kt_M_rate_56 rt xt))))))))))))))))))))))))))
def ks_M_rate : wq_S := wq_sp 9 (fun rt xt => kt_M_rate_0 rt xt)
-- BorderDeskModel.lastRate(III)I
def kt_M_lastRate_74 (rt : Option wq_V → wq_W → Prop) (xt : Nat → wq_W → Prop) (K : Nat → wq_T) : wq_T := (wq_iload 4 (wq_ireturn 0 0 rt))
def kt_M_lastRate_66 (rt : Option wq_V → wq_W → Prop) (xt : Nat → wq_W → Prop) (K : Nat → wq_T) : wq_T := (wq_istore 4 (wq_iinc 5 (nI 1) (wq_can [0, 1, 2, 3, 4, 5] (K 6))))
def kt_M_lastRate_64 (rt : Option wq_V → wq_W → Prop) (xt : Nat → wq_W → Prop) (K : Nat → wq_T) : wq_T := (wq_iload 4 (kt_M_lastRate_66 rt xt K))
def kh_M_lastRate_6 (rt : Option wq_V → wq_W → Prop) (xt : Nat → wq_W → Prop) (K : Nat → wq_T) : wq_T := (wq_iload 5 (wq_aload 0 (wq_get 9 10 (wq_f2 (fun x y => y ≤ x) (kt_M_lastRate_74 rt xt K) (wq_aload 0 (wq_get 9 11 (wq_iload 5 (wq_iald (wq_iload 1 (wq_f2 (fun x y => x = y) (wq_aload 0 (wq_get 9 12 (wq_iload 5 (wq_iald (wq_iload 2 (wq_f2 (fun x y => x = y) (wq_iload 3 (wq_aload 0 (wq_get 9 16 (wq_iload 5 (wq_iald (wq_f2 (fun x y => x < y) (kt_M_lastRate_64 rt xt K) (wq_iload 3 (wq_aload 0 (wq_get 9 17 (wq_iload 5 (wq_iald (wq_f2 (fun x y => y < x) (kt_M_lastRate_64 rt xt K) (wq_iload 5 (kt_M_lastRate_66 rt xt K)))))))))))))) (kt_M_lastRate_64 rt xt K))))))) (kt_M_lastRate_64 rt xt K)))))))))))
def kt_M_lastRate_0 (rt : Option wq_V → wq_W → Prop) (xt : Nat → wq_W → Prop) (K : Nat → wq_T) : wq_T := (wq_iconst (-1) (wq_istore 4 (wq_iconst (nI 0) (wq_istore 5 (wq_can [0, 1, 2, 3, 4, 5] (K 6))))))
def ku_M_lastRate (rt : Option wq_V → wq_W → Prop) (xt : Nat → wq_W → Prop) : Nat → Nat → wq_T
  | 0, _ => fun _ _ _ _ _ => False
  | n + 1, pc => cond (Nat.beq pc 6) (kh_M_lastRate_6 rt xt (ku_M_lastRate rt xt n)) (fun _ _ _ _ _ => False)
def ks_M_lastRate : wq_S := wq_sp 6 (fun rt xt => kt_M_lastRate_0 rt xt (ku_M_lastRate rt xt 1000000000000))
-- BorderDeskModel.rateOf(III)I
def kt_M_rateOf_58 (rt : Option wq_V → wq_W → Prop) (xt : Nat → wq_W → Prop) (K : Nat → wq_T) : wq_T := (wq_iload 4 (wq_ireturn 0 0 rt))
def kt_M_rateOf_44 (rt : Option wq_V → wq_W → Prop) (xt : Nat → wq_W → Prop) (K : Nat → wq_T) : wq_T := (wq_istore 4 (wq_aload 0 (wq_get 9 2 (wq_iload 5 (wq_iald (wq_istore 5 (wq_can [0, 2, 3, 4, 5] (K 6))))))))
def kt_M_rateOf_42 (rt : Option wq_V → wq_W → Prop) (xt : Nat → wq_W → Prop) (K : Nat → wq_T) : wq_T := (wq_iload 4 (kt_M_rateOf_44 rt xt K))
def kh_M_rateOf_6 (rt : Option wq_V → wq_W → Prop) (xt : Nat → wq_W → Prop) (K : Nat → wq_T) : wq_T := (wq_iload 5 (wq_f1 (fun x => x < 0) (kt_M_rateOf_58 rt xt K) (wq_iload 4 (wq_f1 (fun x => 0 ≤ x) (kt_M_rateOf_58 rt xt K) (wq_aload 0 (wq_iload 5 (wq_iload 2 (wq_iload 3 (wq_call (wq_rv 9 ks_M_lastRate) 4 0 0 0 0 (wq_xout 0 0 xt) (wq_istore 4 (wq_iload 4 (wq_f1 (fun x => 0 ≤ x) (kt_M_rateOf_42 rt xt K) (wq_aload 0 (wq_iload 5 (wq_iconst (-1) (wq_iload 3 (wq_call (wq_rv 9 ks_M_lastRate) 4 0 0 0 0 (wq_xout 0 0 xt) (kt_M_rateOf_44 rt xt K))))))))))))))))))
def kt_M_rateOf_0 (rt : Option wq_V → wq_W → Prop) (xt : Nat → wq_W → Prop) (K : Nat → wq_T) : wq_T := (wq_iconst (-1) (wq_istore 4 (wq_iload 1 (wq_istore 5 (wq_can [0, 2, 3, 4, 5] (K 6))))))
def ku_M_rateOf (rt : Option wq_V → wq_W → Prop) (xt : Nat → wq_W → Prop) : Nat → Nat → wq_T
  | 0, _ => fun _ _ _ _ _ => False
  | n + 1, pc => cond (Nat.beq pc 6) (kh_M_rateOf_6 rt xt (ku_M_rateOf rt xt n)) (fun _ _ _ _ _ => False)
def ks_M_rateOf : wq_S := wq_sp 6 (fun rt xt => kt_M_rateOf_0 rt xt (ku_M_rateOf rt xt 1000000000000))
-- BorderDeskModel.rateFor(III)I
def kt_M_rateFor_56 (rt : Option wq_V → wq_W → Prop) (xt : Nat → wq_W → Prop) : wq_T := (wq_ireturn 0 0 rt)
def kt_M_rateFor_49 (rt : Option wq_V → wq_W → Prop) (xt : Nat → wq_W → Prop) : wq_T := (wq_aload 0 (wq_iload 1 (wq_iload 2 (wq_iload 3 (wq_call (wq_rv 9 ks_M_rateOf) 4 0 0 0 0 (wq_xout 0 0 xt) (kt_M_rateFor_56 rt xt))))))
def kt_M_rateFor_35 (rt : Option wq_V → wq_W → Prop) (xt : Nat → wq_W → Prop) : wq_T := (wq_put 9 0 wq_isI (wq_aload 0 (wq_get 9 0 (wq_f1 (fun x => x ≤ 0) (kt_M_rateFor_49 rt xt) (wq_iconst (nI 0) (kt_M_rateFor_56 rt xt))))))
def kt_M_rateFor_34 (rt : Option wq_V → wq_W → Prop) (xt : Nat → wq_W → Prop) : wq_T := (wq_iconst (nI 1) (kt_M_rateFor_35 rt xt))
def kt_M_rateFor_0 (rt : Option wq_V → wq_W → Prop) (xt : Nat → wq_W → Prop) : wq_T := (wq_aload 0 (wq_aload 0 (wq_iload 1 (wq_call (wq_rv 9 ks_M_isHeading) 2 0 0 0 0 (wq_xout 0 0 xt) (wq_f1 (fun x => x = 0) (kt_M_rateFor_34 rt xt) (wq_iload 2 (wq_iconst (nI 0) (wq_iconst (nI 7) (wq_call ks_M_within 3 0 0 0 0 (wq_xout 0 0 xt) (wq_f1 (fun x => x = 0) (kt_M_rateFor_34 rt xt) (wq_iload 3 (wq_iconst (nI 0) (wq_iconst (nI 9999) (wq_call ks_M_within 3 0 0 0 0 (wq_xout 0 0 xt) (wq_f1 (fun x => x = 0) (kt_M_rateFor_34 rt xt) (wq_iconst (nI 0) (kt_M_rateFor_35 rt xt)))))))))))))))))
def ks_M_rateFor : wq_S := wq_sp 4 (fun rt xt => kt_M_rateFor_0 rt xt)
