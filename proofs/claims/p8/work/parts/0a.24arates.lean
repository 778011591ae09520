-- BorderDesk$Rates.add(IIIIIII)I
def kt_R_add_0 (rt : Option wq_V → wq_W → Prop) (xt : Nat → wq_W → Prop) : wq_T := (wq_aload 0 (wq_get 2 1 (wq_istore 8 (wq_aload 0 (wq_get 2 2 (wq_iload 8 (wq_iload 1 (wq_iast (wq_aload 0 (wq_get 2 3 (wq_iload 8 (wq_iload 2 (wq_iast (wq_aload 0 (wq_get 2 4 (wq_iload 8 (wq_iload 3 (wq_iast (wq_aload 0 (wq_get 2 5 (wq_iload 8 (wq_iload 4 (wq_iast (wq_aload 0 (wq_get 2 6 (wq_iload 8 (wq_iload 5 (wq_iast (wq_aload 0 (wq_get 2 7 (wq_iload 8 (wq_iload 6 (wq_iast (wq_aload 0 (wq_get 2 8 (wq_iload 8 (wq_iload 7 (wq_iast (wq_aload 0 (wq_dup (wq_get 2 1 (wq_iconst (nI 1) (wq_i2 (fun x y => x + y) (wq_put 2 1 wq_isI (wq_iload 8 (wq_ireturn 0 0 rt))))))))))))))))))))))))))))))))))))))))))))))
def ks_R_add : wq_S := wq_sp 9 (fun rt xt => kt_R_add_0 rt xt)
-- BorderDesk$Rates.lastOwn(III)I
def kt_R_lastOwn_65 (rt : Option wq_V → wq_W → Prop) (xt : Nat → wq_W → Prop) (K : Nat → wq_T) : wq_T := (wq_iconst (-1) (wq_ireturn 0 0 rt))
def kt_R_lastOwn_59 (rt : Option wq_V → wq_W → Prop) (xt : Nat → wq_W → Prop) (K : Nat → wq_T) : wq_T := (wq_iinc 4 (-1) (wq_can [0, 1, 2, 3, 4] (K 8)))
def kh_R_lastOwn_8 (rt : Option wq_V → wq_W → Prop) (xt : Nat → wq_W → Prop) (K : Nat → wq_T) : wq_T := (wq_iload 4 (wq_f1 (fun x => x < 0) (kt_R_lastOwn_65 rt xt K) (wq_aload 0 (wq_get 2 2 (wq_iload 4 (wq_iald (wq_iload 1 (wq_f2 (fun x y => x = y) (wq_aload 0 (wq_get 2 3 (wq_iload 4 (wq_iald (wq_iload 2 (wq_f2 (fun x y => x = y) (wq_iload 3 (wq_aload 0 (wq_get 2 7 (wq_iload 4 (wq_iald (wq_aload 0 (wq_get 2 8 (wq_iload 4 (wq_iald (wq_call ks_B_isWithin 3 0 0 0 0 (wq_xout 0 0 xt) (wq_f1 (fun x => x = 0) (kt_R_lastOwn_59 rt xt K) (wq_iload 4 (wq_ireturn 0 0 rt))))))))))))) (kt_R_lastOwn_59 rt xt K))))))) (kt_R_lastOwn_59 rt xt K)))))))))
def kt_R_lastOwn_0 (rt : Option wq_V → wq_W → Prop) (xt : Nat → wq_W → Prop) (K : Nat → wq_T) : wq_T := (wq_aload 0 (wq_get 2 1 (wq_iconst (nI 1) (wq_i2 (fun x y => x - y) (wq_istore 4 (wq_can [0, 1, 2, 3, 4] (K 8)))))))
def ku_R_lastOwn (rt : Option wq_V → wq_W → Prop) (xt : Nat → wq_W → Prop) : Nat → Nat → wq_T
  | 0, _ => fun _ _ _ _ _ => False
  | n + 1, pc => cond (Nat.beq pc 8) (kh_R_lastOwn_8 rt xt (ku_R_lastOwn rt xt n)) (fun _ _ _ _ _ => False)
def ks_R_lastOwn : wq_S := wq_sp 5 (fun rt xt => kt_R_lastOwn_0 rt xt (ku_R_lastOwn rt xt 1000000000000))
-- BorderDesk$Rates.find(III)I
def kt_R_find_71 (rt : Option wq_V → wq_W → Prop) (xt : Nat → wq_W → Prop) (K : Nat → wq_T) : wq_T := (wq_iconst (-1) (wq_ireturn 0 0 rt))
def kt_R_find_53 (rt : Option wq_V → wq_W → Prop) (xt : Nat → wq_W → Prop) (K : Nat → wq_T) : wq_T := (wq_aload 0 (wq_get 2 0 (wq_get 1 1 (wq_iload 4 (wq_iald (wq_istore 4 (wq_iinc 5 (nI 1) (wq_can [0, 2, 3, 4, 5] (K 6)))))))))
def kt_R_find_44 (rt : Option wq_V → wq_W → Prop) (xt : Nat → wq_W → Prop) (K : Nat → wq_T) : wq_T := (wq_iload 6 (wq_iconst (-1) (wq_f2 (fun x y => x = y) (kt_R_find_53 rt xt K) (wq_iload 6 (wq_ireturn 0 0 rt)))))
def kh_R_find_6 (rt : Option wq_V → wq_W → Prop) (xt : Nat → wq_W → Prop) (K : Nat → wq_T) : wq_T := (wq_iload 5 (wq_iconst (nI 5) (wq_f2 (fun x y => y < x) (kt_R_find_71 rt xt K) (wq_iload 4 (wq_iconst (-1) (wq_f2 (fun x y => x = y) (kt_R_find_71 rt xt K) (wq_aload 0 (wq_iload 4 (wq_iload 2 (wq_iload 3 (wq_call (wq_rv 2 ks_R_lastOwn) 4 0 0 0 0 (wq_xout 0 0 xt) (wq_istore 6 (wq_iload 6 (wq_iconst (-1) (wq_f2 (fun x y => x = y) (wq_aload 0 (wq_iload 4 (wq_iconst (-1) (wq_iload 3 (wq_call (wq_rv 2 ks_R_lastOwn) 4 0 0 0 0 (wq_xout 0 0 xt) (wq_istore 6 (kt_R_find_44 rt xt K))))))) (kt_R_find_44 rt xt K))))))))))))))))
def kt_R_find_0 (rt : Option wq_V → wq_W → Prop) (xt : Nat → wq_W → Prop) (K : Nat → wq_T) : wq_T := (wq_iload 1 (wq_istore 4 (wq_iconst (nI 0) (wq_istore 5 (wq_can [0, 2, 3, 4, 5] (K 6))))))
def ku_R_find (rt : Option wq_V → wq_W → Prop) (xt : Nat → wq_W → Prop) : Nat → Nat → wq_T
  | 0, _ => fun _ _ _ _ _ => False
  | n + 1, pc => cond (Nat.beq pc 6) (kh_R_find_6 rt xt (ku_R_find rt xt n)) (fun _ _ _ _ _ => False)
def ks_R_find : wq_S := wq_sp 7 (fun rt xt => kt_R_find_0 rt xt (ku_R_find rt xt 1000000000000))
-- BorderDesk$Rates.exactDuty(IJJ)J
def kt_R_exactDuty_60 (rt : Option wq_V → wq_W → Prop) (xt : Nat → wq_W → Prop) : wq_T := (wq_lload 6 (wq_lreturn 0 0 rt))
def kt_R_exactDuty_63 (rt : Option wq_V → wq_W → Prop) (xt : Nat → wq_W → Prop) : wq_T := (wq_lload 8 (wq_lreturn 0 0 rt))
def kt_R_exactDuty_66 (rt : Option wq_V → wq_W → Prop) (xt : Nat → wq_W → Prop) : wq_T := (wq_lload 6 (wq_lload 8 (wq_ml (fun x y => if y < x then x else y) 0 0 (wq_lreturn 0 0 rt))))
def kt_R_exactDuty_74 (rt : Option wq_V → wq_W → Prop) (xt : Nat → wq_W → Prop) : wq_T := (wq_lload 6 (wq_lload 8 (wq_l2 (fun x y => x + y) (wq_lreturn 0 0 rt))))
def kt_R_exactDuty_0 (rt : Option wq_V → wq_W → Prop) (xt : Nat → wq_W → Prop) : wq_T := (wq_aload 0 (wq_get 2 5 (wq_iload 1 (wq_iald (wq_i2l (wq_lload 2 (wq_l2 (fun x y => x * y) (wq_lstore 6 (wq_aload 0 (wq_get 2 6 (wq_iload 1 (wq_iald (wq_i2l (wq_lload 4 (wq_l2 (fun x y => x * y) (wq_lconst (10000) (wq_l2 (fun x y => x * y) (wq_lstore 8 (wq_aload 0 (wq_get 2 4 (wq_iload 1 (wq_iald (wq_sw [((nI 0), (kt_R_exactDuty_60 rt xt)), ((nI 1), (kt_R_exactDuty_63 rt xt)), ((nI 2), (kt_R_exactDuty_66 rt xt))] (kt_R_exactDuty_74 rt xt))))))))))))))))))))))))
def ks_R_exactDuty : wq_S := wq_sp 10 (fun rt xt => kt_R_exactDuty_0 rt xt)
-- BorderDesk$Quotas.add(IIIIII)I
def kt_Q_add_0 (rt : Option wq_V → wq_W → Prop) (xt : Nat → wq_W → Prop) : wq_T := (wq_aload 0 (wq_get 3 1 (wq_istore 7 (wq_aload 0 (wq_get 3 4 (wq_iload 7 (wq_iload 1 (wq_iast (wq_aload 0 (wq_get 3 5 (wq_iload 7 (wq_iload 2 (wq_iast (wq_aload 0 (wq_get 3 2 (wq_iload 7 (wq_iload 3 (wq_iast (wq_aload 0 (wq_get 3 3 (wq_iload 7 (wq_iload 4 (wq_iast (wq_aload 0 (wq_get 3 6 (wq_iload 7 (wq_iload 5 (wq_iast (wq_aload 0 (wq_get 3 7 (wq_iload 7 (wq_iload 6 (wq_iast (wq_aload 0 (wq_dup (wq_get 3 1 (wq_iconst (nI 1) (wq_i2 (fun x y => x + y) (wq_put 3 1 wq_isI (wq_iload 7 (wq_ireturn 0 0 rt)))))))))))))))))))))))))))))))))))))))))
def ks_Q_add : wq_S := wq_sp 8 (fun rt xt => kt_Q_add_0 rt xt)
-- BorderDesk$Quotas.find(III)I
def kt_Q_find_71 (rt : Option wq_V → wq_W → Prop) (xt : Nat → wq_W → Prop) (K : Nat → wq_T) : wq_T := (wq_iconst (-1) (wq_ireturn 0 0 rt))
def kt_Q_find_65 (rt : Option wq_V → wq_W → Prop) (xt : Nat → wq_W → Prop) (K : Nat → wq_T) : wq_T := (wq_iinc 4 (nI 1) (wq_can [0, 1, 2, 3, 4] (K 3)))
def kh_Q_find_3 (rt : Option wq_V → wq_W → Prop) (xt : Nat → wq_W → Prop) (K : Nat → wq_T) : wq_T := (wq_iload 4 (wq_aload 0 (wq_get 3 1 (wq_f2 (fun x y => y ≤ x) (kt_Q_find_71 rt xt K) (wq_aload 0 (wq_get 3 5 (wq_iload 4 (wq_iald (wq_iload 2 (wq_f2 (fun x y => x = y) (wq_iload 3 (wq_aload 0 (wq_get 3 6 (wq_iload 4 (wq_iald (wq_aload 0 (wq_get 3 7 (wq_iload 4 (wq_iald (wq_call ks_B_isWithin 3 0 0 0 0 (wq_xout 0 0 xt) (wq_f1 (fun x => x = 0) (kt_Q_find_65 rt xt K) (wq_aload 0 (wq_get 3 0 (wq_aload 0 (wq_get 3 4 (wq_iload 4 (wq_iald (wq_iload 1 (wq_call (wq_rv 1 ks_T_isSameOrAbove) 3 0 0 0 0 (wq_xout 0 0 xt) (wq_f1 (fun x => x = 0) (kt_Q_find_65 rt xt K) (wq_iload 4 (wq_ireturn 0 0 rt)))))))))))))))))))))) (kt_Q_find_65 rt xt K)))))))))))
def kt_Q_find_0 (rt : Option wq_V → wq_W → Prop) (xt : Nat → wq_W → Prop) (K : Nat → wq_T) : wq_T := (wq_iconst (nI 0) (wq_istore 4 (wq_can [0, 1, 2, 3, 4] (K 3))))
def ku_Q_find (rt : Option wq_V → wq_W → Prop) (xt : Nat → wq_W → Prop) : Nat → Nat → wq_T
  | 0, _ => fun _ _ _ _ _ => False
  | n + 1, pc => cond (Nat.beq pc 3) (kh_Q_find_3 rt xt (ku_Q_find rt xt n)) (fun _ _ _ _ _ => False)
def ks_Q_find : wq_S := wq_sp 5 (fun rt xt => kt_Q_find_0 rt xt (ku_Q_find rt xt 1000000000000))
-- BorderDesk$Origins.has(II)Z
def kt_O_has_14 (rt : Option wq_V → wq_W → Prop) (xt : Nat → wq_W → Prop) : wq_T := (wq_zreturn 0 0 rt)
def kt_O_has_13 (rt : Option wq_V → wq_W → Prop) (xt : Nat → wq_W → Prop) : wq_T := (wq_iconst (nI 0) (kt_O_has_14 rt xt))
def kt_O_has_0 (rt : Option wq_V → wq_W → Prop) (xt : Nat → wq_W → Prop) : wq_T := (wq_iload 0 (wq_iload 1 (wq_i2 (fun x y => x >>> (y &&& 31)) (wq_iconst (nI 1) (wq_i2 (fun x y => x &&& y) (wq_iconst (nI 1) (wq_f2 (fun x y => x = y) (wq_iconst (nI 1) (kt_O_has_14 rt xt)) (kt_O_has_13 rt xt))))))))
def ks_O_has : wq_S := wq_sp 2 (fun rt xt => kt_O_has_0 rt xt)
-- BorderDesk$Origins.wouldComeRound(II)Z
def kt_O_wouldComeRound_23 (rt : Option wq_V → wq_W → Prop) (xt : Nat → wq_W → Prop) : wq_T := (wq_zreturn 0 0 rt)
def kt_O_wouldComeRound_18 (rt : Option wq_V → wq_W → Prop) (xt : Nat → wq_W → Prop) : wq_T := (wq_iconst (nI 1) (kt_O_wouldComeRound_23 rt xt))
def kt_O_wouldComeRound_22 (rt : Option wq_V → wq_W → Prop) (xt : Nat → wq_W → Prop) : wq_T := (wq_iconst (nI 0) (kt_O_wouldComeRound_23 rt xt))
def kt_O_wouldComeRound_0 (rt : Option wq_V → wq_W → Prop) (xt : Nat → wq_W → Prop) : wq_T := (wq_iload 1 (wq_iload 2 (wq_f2 (fun x y => x = y) (kt_O_wouldComeRound_18 rt xt) (wq_aload 0 (wq_get 4 6 (wq_iload 2 (wq_iald (wq_iload 1 (wq_call ks_O_has 2 0 0 0 0 (wq_xout 0 0 xt) (wq_f1 (fun x => x = 0) (kt_O_wouldComeRound_22 rt xt) (kt_O_wouldComeRound_18 rt xt)))))))))))
def ks_O_wouldComeRound : wq_S := wq_sp 3 (fun rt xt => kt_O_wouldComeRound_0 rt xt)
-- BorderDesk$Origins.addPart(IIII)I
def kt_O_addPart_109 (rt : Option wq_V → wq_W → Prop) (xt : Nat → wq_W → Prop) (K : Nat → wq_T) : wq_T := (wq_aload 0 (wq_get 4 2 (wq_iload 1 (wq_iald (wq_ireturn 0 0 rt)))))
def kt_O_addPart_103 (rt : Option wq_V → wq_W → Prop) (xt : Nat → wq_W → Prop) (K : Nat → wq_T) : wq_T := (wq_iinc 7 (nI 1) (wq_can [0, 1, 6, 7] (K 64)))
def kt_O_addPart_91 (rt : Option wq_V → wq_W → Prop) (xt : Nat → wq_W → Prop) (K : Nat → wq_T) : wq_T := (wq_aload 0 (wq_get 4 6 (wq_iload 7 (wq_dup2 (wq_iald (wq_iload 6 (wq_i2 (fun x y => x ||| y) (wq_iast (kt_O_addPart_103 rt xt K)))))))))
def kh_O_addPart_64 (rt : Option wq_V → wq_W → Prop) (xt : Nat → wq_W → Prop) (K : Nat → wq_T) : wq_T := (wq_iload 7 (wq_iconst (nI 16) (wq_f2 (fun x y => y ≤ x) (kt_O_addPart_109 rt xt K) (wq_iload 7 (wq_iload 1 (wq_f2 (fun x y => x = y) (kt_O_addPart_91 rt xt K) (wq_aload 0 (wq_get 4 6 (wq_iload 7 (wq_iald (wq_iload 1 (wq_call ks_O_has 2 0 0 0 0 (wq_xout 0 0 xt) (wq_f1 (fun x => x = 0) (kt_O_addPart_103 rt xt K) (kt_O_addPart_91 rt xt K))))))))))))))
def kt_O_addPart_0 (rt : Option wq_V → wq_W → Prop) (xt : Nat → wq_W → Prop) (K : Nat → wq_T) : wq_T := (wq_aload 0 (wq_get 4 2 (wq_iload 1 (wq_iald (wq_istore 5 (wq_aload 0 (wq_get 4 3 (wq_iload 1 (wq_aald (wq_iload 5 (wq_iload 2 (wq_iast (wq_aload 0 (wq_get 4 4 (wq_iload 1 (wq_aald (wq_iload 5 (wq_iload 3 (wq_iast (wq_aload 0 (wq_get 4 5 (wq_iload 1 (wq_aald (wq_iload 5 (wq_iload 4 (wq_iast (wq_aload 0 (wq_get 4 2 (wq_iload 1 (wq_dup2 (wq_iald (wq_iconst (nI 1) (wq_i2 (fun x y => x + y) (wq_iast (wq_aload 0 (wq_get 4 6 (wq_iload 2 (wq_iald (wq_iconst (nI 1) (wq_iload 2 (wq_i2 (fun x y => x <<< (y &&& 31)) (wq_i2 (fun x y => x ||| y) (wq_istore 6 (wq_iconst (nI 0) (wq_istore 7 (wq_can [0, 1, 6, 7] (K 64)))))))))))))))))))))))))))))))))))))))))))))))
def ku_O_addPart (rt : Option wq_V → wq_W → Prop) (xt : Nat → wq_W → Prop) : Nat → Nat → wq_T
  | 0, _ => fun _ _ _ _ _ => False
  | n + 1, pc => cond (Nat.beq pc 64) (kh_O_addPart_64 rt xt (ku_O_addPart rt xt n)) (fun _ _ _ _ _ => False)
def ks_O_addPart : wq_S := wq_sp 8 (fun rt xt => kt_O_addPart_0 rt xt (ku_O_addPart rt xt 1000000000000))
-- BorderDesk$Origins.isForeign(IIII)Z
def kt_O_isForeign_55 (rt : Option wq_V → wq_W → Prop) (xt : Nat → wq_W → Prop) : wq_T := (wq_zreturn 0 0 rt)
def kt_O_isForeign_50 (rt : Option wq_V → wq_W → Prop) (xt : Nat → wq_W → Prop) : wq_T := (wq_iconst (nI 1) (kt_O_isForeign_55 rt xt))
def kt_O_isForeign_54 (rt : Option wq_V → wq_W → Prop) (xt : Nat → wq_W → Prop) : wq_T := (wq_iconst (nI 0) (kt_O_isForeign_55 rt xt))
def kt_O_isForeign_0 (rt : Option wq_V → wq_W → Prop) (xt : Nat → wq_W → Prop) : wq_T := (wq_aload 0 (wq_get 4 3 (wq_iload 1 (wq_aald (wq_iload 2 (wq_iald (wq_istore 5 (wq_aload 0 (wq_get 4 1 (wq_iload 3 (wq_iald (wq_aload 0 (wq_get 4 5 (wq_iload 1 (wq_aald (wq_iload 2 (wq_iald (wq_call ks_O_has 2 0 0 0 0 (wq_xout 0 0 xt) (wq_f1 (fun x => x = 0) (kt_O_isForeign_50 rt xt) (wq_aload 0 (wq_get 4 2 (wq_iload 5 (wq_iald (wq_f1 (fun x => x ≤ 0) (kt_O_isForeign_54 rt xt) (wq_iload 4 (wq_iload 5 (wq_call ks_O_has 2 0 0 0 0 (wq_xout 0 0 xt) (wq_f1 (fun x => x = 0) (kt_O_isForeign_50 rt xt) (kt_O_isForeign_54 rt xt)))))))))))))))))))))))))))))
def ks_O_isForeign : wq_S := wq_sp 6 (fun rt xt => kt_O_isForeign_0 rt xt)
-- BorderDesk$Origins.meetsChange(IIII)Z
def kt_O_meetsChange_55 (rt : Option wq_V → wq_W → Prop) (xt : Nat → wq_W → Prop) (K : Nat → wq_T) : wq_T := (wq_iconst (nI 1) (wq_zreturn 0 0 rt))
def kt_O_meetsChange_49 (rt : Option wq_V → wq_W → Prop) (xt : Nat → wq_W → Prop) (K : Nat → wq_T) : wq_T := (wq_iinc 5 (nI 1) (wq_can [0, 1, 2, 3, 4, 5] (K 3)))
def kh_O_meetsChange_3 (rt : Option wq_V → wq_W → Prop) (xt : Nat → wq_W → Prop) (K : Nat → wq_T) : wq_T := (wq_iload 5 (wq_aload 0 (wq_get 4 2 (wq_iload 1 (wq_iald (wq_f2 (fun x y => y ≤ x) (kt_O_meetsChange_55 rt xt K) (wq_aload 0 (wq_iload 1 (wq_iload 5 (wq_iload 2 (wq_iload 3 (wq_call (wq_rv 4 ks_O_isForeign) 5 0 0 0 0 (wq_xout 0 0 xt) (wq_f1 (fun x => x = 0) (kt_O_meetsChange_49 rt xt K) (wq_aload 0 (wq_get 4 0 (wq_aload 0 (wq_get 4 3 (wq_iload 1 (wq_aald (wq_iload 5 (wq_iald (wq_call (wq_rv 1 ks_T_classOf) 2 0 0 0 0 (wq_xout 0 0 xt) (wq_iload 4 (wq_f2 (fun x y => x = y) (wq_iconst (nI 0) (wq_zreturn 0 0 rt)) (kt_O_meetsChange_49 rt xt K)))))))))))))))))))))))))
def kt_O_meetsChange_0 (rt : Option wq_V → wq_W → Prop) (xt : Nat → wq_W → Prop) (K : Nat → wq_T) : wq_T := (wq_iconst (nI 0) (wq_istore 5 (wq_can [0, 1, 2, 3, 4, 5] (K 3))))
def ku_O_meetsChange (rt : Option wq_V → wq_W → Prop) (xt : Nat → wq_W → Prop) : Nat → Nat → wq_T
  | 0, _ => fun _ _ _ _ _ => False
  | n + 1, pc => cond (Nat.beq pc 3) (kh_O_meetsChange_3 rt xt (ku_O_meetsChange rt xt n)) (fun _ _ _ _ _ => False)
def ks_O_meetsChange : wq_S := wq_sp 6 (fun rt xt => kt_O_meetsChange_0 rt xt (ku_O_meetsChange rt xt 1000000000000))
-- BorderDesk$Origins.meetsShare(IIII)Z
def kt_O_meetsShare_86 (rt : Option wq_V → wq_W → Prop) (xt : Nat → wq_W → Prop) (K : Nat → wq_T) : wq_T := (wq_zreturn 0 0 rt)
def kt_O_meetsShare_85 (rt : Option wq_V → wq_W → Prop) (xt : Nat → wq_W → Prop) (K : Nat → wq_T) : wq_T := (wq_iconst (nI 0) (kt_O_meetsShare_86 rt xt K))
def kt_O_meetsShare_65 (rt : Option wq_V → wq_W → Prop) (xt : Nat → wq_W → Prop) (K : Nat → wq_T) : wq_T := (wq_lconst (1000) (wq_lload 5 (wq_l2 (fun x y => x * y) (wq_iload 4 (wq_i2l (wq_lload 7 (wq_l2 (fun x y => x * y) (wq_fl (fun x y => y < x) (kt_O_meetsShare_85 rt xt K) (wq_iconst (nI 1) (kt_O_meetsShare_86 rt xt K))))))))))
def kt_O_meetsShare_59 (rt : Option wq_V → wq_W → Prop) (xt : Nat → wq_W → Prop) (K : Nat → wq_T) : wq_T := (wq_iinc 9 (nI 1) (wq_can [0, 1, 2, 3, 4, 5, 7, 9] (K 9)))
def kh_O_meetsShare_9 (rt : Option wq_V → wq_W → Prop) (xt : Nat → wq_W → Prop) (K : Nat → wq_T) : wq_T := (wq_iload 9 (wq_aload 0 (wq_get 4 2 (wq_iload 1 (wq_iald (wq_f2 (fun x y => y ≤ x) (kt_O_meetsShare_65 rt xt K) (wq_aload 0 (wq_get 4 4 (wq_iload 1 (wq_aald (wq_iload 9 (wq_iald (wq_istore 10 (wq_lload 7 (wq_iload 10 (wq_i2l (wq_l2 (fun x y => x + y) (wq_lstore 7 (wq_aload 0 (wq_iload 1 (wq_iload 9 (wq_iload 2 (wq_iload 3 (wq_call (wq_rv 4 ks_O_isForeign) 5 0 0 0 0 (wq_xout 0 0 xt) (wq_f1 (fun x => x = 0) (kt_O_meetsShare_59 rt xt K) (wq_lload 5 (wq_iload 10 (wq_i2l (wq_l2 (fun x y => x + y) (wq_lstore 5 (kt_O_meetsShare_59 rt xt K)))))))))))))))))))))))))))))))
def kt_O_meetsShare_0 (rt : Option wq_V → wq_W → Prop) (xt : Nat → wq_W → Prop) (K : Nat → wq_T) : wq_T := (wq_lconst (0 : Int64) (wq_lstore 5 (wq_lconst (0 : Int64) (wq_lstore 7 (wq_iconst (nI 0) (wq_istore 9 (wq_can [0, 1, 2, 3, 4, 5, 7, 9] (K 9))))))))
def ku_O_meetsShare (rt : Option wq_V → wq_W → Prop) (xt : Nat → wq_W → Prop) : Nat → Nat → wq_T
  | 0, _ => fun _ _ _ _ _ => False
  | n + 1, pc => cond (Nat.beq pc 9) (kh_O_meetsShare_9 rt xt (ku_O_meetsShare rt xt n)) (fun _ _ _ _ _ => False)
def ks_O_meetsShare : wq_S := wq_sp 11 (fun rt xt => kt_O_meetsShare_0 rt xt (ku_O_meetsShare rt xt 1000000000000))
-- BorderDesk$Origins.meetsRule(III)Z
def kt_O_meetsRule_75 (rt : Option wq_V → wq_W → Prop) (xt : Nat → wq_W → Prop) : wq_T := (wq_aload 0 (wq_iload 1 (wq_iload 2 (wq_iload 3 (wq_aload 0 (wq_get 4 0 (wq_get 1 4 (wq_iload 5 (wq_iald (wq_call (wq_rv 4 ks_O_meetsShare) 5 0 0 0 0 (wq_xout 0 0 xt) (wq_zreturn 0 0 rt)))))))))))
def kt_O_meetsRule_52 (rt : Option wq_V → wq_W → Prop) (xt : Nat → wq_W → Prop) : wq_T := (wq_aload 0 (wq_get 4 0 (wq_get 1 3 (wq_iload 5 (wq_iald (wq_f1 (fun x => x = 0) (wq_aload 0 (wq_iload 1 (wq_iload 2 (wq_iload 3 (wq_iload 4 (wq_call (wq_rv 4 ks_O_meetsChange) 5 0 0 0 0 (wq_xout 0 0 xt) (wq_zreturn 0 0 rt))))))) (kt_O_meetsRule_75 rt xt)))))))
def kt_O_meetsRule_42 (rt : Option wq_V → wq_W → Prop) (xt : Nat → wq_W → Prop) : wq_T := (wq_istore 5 (wq_iload 5 (wq_iconst (-1) (wq_f2 (fun x y => x = y) (wq_iconst (nI 0) (wq_zreturn 0 0 rt)) (kt_O_meetsRule_52 rt xt)))))
def kt_O_meetsRule_33 (rt : Option wq_V → wq_W → Prop) (xt : Nat → wq_W → Prop) : wq_T := (wq_aload 0 (wq_get 4 0 (wq_iload 4 (wq_call (wq_rv 1 ks_T_headingWithRule) 2 0 0 0 0 (wq_xout 0 0 xt) (kt_O_meetsRule_42 rt xt)))))
def kt_O_meetsRule_21 (rt : Option wq_V → wq_W → Prop) (xt : Nat → wq_W → Prop) : wq_T := (wq_istore 4 (wq_iload 4 (wq_iconst (-1) (wq_f2 (fun x y => x = y) (wq_iconst (-1) (kt_O_meetsRule_42 rt xt)) (kt_O_meetsRule_33 rt xt)))))
def kt_O_meetsRule_13 (rt : Option wq_V → wq_W → Prop) (xt : Nat → wq_W → Prop) : wq_T := (wq_aload 0 (wq_get 4 0 (wq_iload 1 (wq_call (wq_rv 1 ks_T_classOf) 2 0 0 0 0 (wq_xout 0 0 xt) (kt_O_meetsRule_21 rt xt)))))
def kt_O_meetsRule_0 (rt : Option wq_V → wq_W → Prop) (xt : Nat → wq_W → Prop) : wq_T := (wq_aload 0 (wq_get 4 2 (wq_iload 1 (wq_iald (wq_f1 (fun x => x = 0) (wq_iconst (-1) (kt_O_meetsRule_21 rt xt)) (kt_O_meetsRule_13 rt xt))))))
def ks_O_meetsRule : wq_S := wq_sp 6 (fun rt xt => kt_O_meetsRule_0 rt xt)
-- BorderDesk$Origins.isMadeIn(II)Z
def kt_O_isMadeIn_98 (rt : Option wq_V → wq_W → Prop) (xt : Nat → wq_W → Prop) (K : Nat → wq_T) : wq_T := (wq_iload 4 (wq_iload 1 (wq_call ks_O_has 2 0 0 0 0 (wq_xout 0 0 xt) (wq_zreturn 0 0 rt))))
def kh_O_isMadeIn_17 (rt : Option wq_V → wq_W → Prop) (xt : Nat → wq_W → Prop) (K : Nat → wq_T) : wq_T := (wq_iload 5 (wq_aload 0 (wq_get 4 6 (wq_iload 1 (wq_iald (wq_call ks_I_bitCount 1 0 0 0 0 (wq_xout 0 0 xt) (wq_f2 (fun x y => y < x) (kt_O_isMadeIn_98 rt xt K) (wq_iconst (nI 0) (wq_istore 6 (wq_can [0, 1, 2, 3, 4, 5, 6] (K 34)))))))))))
def kt_O_isMadeIn_92 (rt : Option wq_V → wq_W → Prop) (xt : Nat → wq_W → Prop) (K : Nat → wq_T) : wq_T := (wq_iinc 5 (nI 1) (wq_can [0, 1, 2, 3, 4, 5] (K 17)))
def kt_O_isMadeIn_86 (rt : Option wq_V → wq_W → Prop) (xt : Nat → wq_W → Prop) (K : Nat → wq_T) : wq_T := (wq_iinc 6 (nI 1) (wq_can [0, 1, 2, 3, 4, 5, 6] (K 34)))
def kh_O_isMadeIn_34 (rt : Option wq_V → wq_W → Prop) (xt : Nat → wq_W → Prop) (K : Nat → wq_T) : wq_T := (wq_iload 6 (wq_iconst (nI 16) (wq_f2 (fun x y => y ≤ x) (kt_O_isMadeIn_92 rt xt K) (wq_iload 3 (wq_iload 6 (wq_call ks_O_has 2 0 0 0 0 (wq_xout 0 0 xt) (wq_f1 (fun x => x = 0) (kt_O_isMadeIn_86 rt xt K) (wq_aload 0 (wq_get 4 6 (wq_iload 6 (wq_iald (wq_call ks_I_bitCount 1 0 0 0 0 (wq_xout 0 0 xt) (wq_iload 5 (wq_f2 (fun x y => x = y) (wq_aload 0 (wq_iload 6 (wq_iload 2 (wq_iload 4 (wq_call (wq_rv 4 ks_O_meetsRule) 4 0 0 0 0 (wq_xout 0 0 xt) (wq_f1 (fun x => x = 0) (kt_O_isMadeIn_86 rt xt K) (wq_iload 4 (wq_iconst (nI 1) (wq_iload 6 (wq_i2 (fun x y => x <<< (y &&& 31)) (wq_i2 (fun x y => x ||| y) (wq_istore 4 (kt_O_isMadeIn_86 rt xt K))))))))))))) (kt_O_isMadeIn_86 rt xt K)))))))))))))))
def kt_O_isMadeIn_0 (rt : Option wq_V → wq_W → Prop) (xt : Nat → wq_W → Prop) (K : Nat → wq_T) : wq_T := (wq_aload 0 (wq_get 4 6 (wq_iload 1 (wq_iald (wq_iconst (nI 1) (wq_iload 1 (wq_i2 (fun x y => x <<< (y &&& 31)) (wq_i2 (fun x y => x ||| y) (wq_istore 3 (wq_iconst (nI 0) (wq_istore 4 (wq_iconst (nI 0) (wq_istore 5 (wq_can [0, 1, 2, 3, 4, 5] (K 17)))))))))))))))
def ku_O_isMadeIn (rt : Option wq_V → wq_W → Prop) (xt : Nat → wq_W → Prop) : Nat → Nat → wq_T
  | 0, _ => fun _ _ _ _ _ => False
  | n + 1, pc => cond (Nat.beq pc 17) (kh_O_isMadeIn_17 rt xt (ku_O_isMadeIn rt xt n)) (cond (Nat.beq pc 34) (kh_O_isMadeIn_34 rt xt (ku_O_isMadeIn rt xt n)) (fun _ _ _ _ _ => False))
def ks_O_isMadeIn : wq_S := wq_sp 7 (fun rt xt => kt_O_isMadeIn_0 rt xt (ku_O_isMadeIn rt xt 1000000000000))
