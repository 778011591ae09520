-- java/lang/Integer.bitCount(I)I
def kt_I_bitCount_0 (rt : Option wq_V → wq_W → Prop) (xt : Nat → wq_W → Prop) : wq_T := (wq_iload 0 (wq_iload 0 (wq_iconst (nI 1) (wq_i2 (fun x y => (x.toUInt32 >>> (y.toUInt32 &&& Int32.toUInt32 31)).toInt32) (wq_iconst (1431655765) (wq_i2 (fun x y => x &&& y) (wq_i2 (fun x y => x - y) (wq_istore 0 (wq_iload 0 (wq_iconst (858993459) (wq_i2 (fun x y => x &&& y) (wq_iload 0 (wq_iconst (nI 2) (wq_i2 (fun x y => (x.toUInt32 >>> (y.toUInt32 &&& Int32.toUInt32 31)).toInt32) (wq_iconst (858993459) (wq_i2 (fun x y => x &&& y) (wq_i2 (fun x y => x + y) (wq_istore 0 (wq_iload 0 (wq_iload 0 (wq_iconst (nI 4) (wq_i2 (fun x y => (x.toUInt32 >>> (y.toUInt32 &&& Int32.toUInt32 31)).toInt32) (wq_i2 (fun x y => x + y) (wq_iconst (252645135) (wq_i2 (fun x y => x &&& y) (wq_istore 0 (wq_iload 0 (wq_iload 0 (wq_iconst (nI 8) (wq_i2 (fun x y => (x.toUInt32 >>> (y.toUInt32 &&& Int32.toUInt32 31)).toInt32) (wq_i2 (fun x y => x + y) (wq_istore 0 (wq_iload 0 (wq_iload 0 (wq_iconst (nI 16) (wq_i2 (fun x y => (x.toUInt32 >>> (y.toUInt32 &&& Int32.toUInt32 31)).toInt32) (wq_i2 (fun x y => x + y) (wq_istore 0 (wq_iload 0 (wq_iconst (nI 63) (wq_i2 (fun x y => x &&& y) (wq_ireturn 0 0 rt))))))))))))))))))))))))))))))))))))))))))
def ks_I_bitCount : wq_S := wq_sp 1 (fun rt xt => kt_I_bitCount_0 rt xt)
-- BorderDesk.isBelow(II)Z
def kt_B_isBelow_15 (rt : Option wq_V → wq_W → Prop) (xt : Nat → wq_W → Prop) : wq_T := (wq_zreturn 0 0 rt)
def kt_B_isBelow_14 (rt : Option wq_V → wq_W → Prop) (xt : Nat → wq_W → Prop) : wq_T := (wq_iconst (nI 0) (kt_B_isBelow_15 rt xt))
def kt_B_isBelow_0 (rt : Option wq_V → wq_W → Prop) (xt : Nat → wq_W → Prop) : wq_T := (wq_iconst (nI 0) (wq_iload 0 (wq_f2 (fun x y => y < x) (kt_B_isBelow_14 rt xt) (wq_iload 0 (wq_iload 1 (wq_f2 (fun x y => y ≤ x) (kt_B_isBelow_14 rt xt) (wq_iconst (nI 1) (kt_B_isBelow_15 rt xt))))))))
def ks_B_isBelow : wq_S := wq_sp 2 (fun rt xt => kt_B_isBelow_0 rt xt)
-- BorderDesk.isWithin(III)Z
def kt_B_isWithin_15 (rt : Option wq_V → wq_W → Prop) (xt : Nat → wq_W → Prop) : wq_T := (wq_zreturn 0 0 rt)
def kt_B_isWithin_14 (rt : Option wq_V → wq_W → Prop) (xt : Nat → wq_W → Prop) : wq_T := (wq_iconst (nI 0) (kt_B_isWithin_15 rt xt))
def kt_B_isWithin_0 (rt : Option wq_V → wq_W → Prop) (xt : Nat → wq_W → Prop) : wq_T := (wq_iload 1 (wq_iload 0 (wq_f2 (fun x y => y < x) (kt_B_isWithin_14 rt xt) (wq_iload 0 (wq_iload 2 (wq_f2 (fun x y => y < x) (kt_B_isWithin_14 rt xt) (wq_iconst (nI 1) (kt_B_isWithin_15 rt xt))))))))
def ks_B_isWithin : wq_S := wq_sp 3 (fun rt xt => kt_B_isWithin_0 rt xt)
-- BorderDesk.isGood(I)Z
def kt_B_isGood_0 (rt : Option wq_V → wq_W → Prop) (xt : Nat → wq_W → Prop) : wq_T := (wq_iload 0 (wq_iconst (nI 16) (wq_call ks_B_isBelow 2 0 0 0 0 (wq_xout 0 0 xt) (wq_zreturn 0 0 rt))))
def ks_B_isGood : wq_S := wq_sp 1 (fun rt xt => kt_B_isGood_0 rt xt)
-- BorderDesk.isLand(I)Z
def kt_B_isLand_0 (rt : Option wq_V → wq_W → Prop) (xt : Nat → wq_W → Prop) : wq_T := (wq_iload 0 (wq_iconst (nI 8) (wq_call ks_B_isBelow 2 0 0 0 0 (wq_xout 0 0 xt) (wq_zreturn 0 0 rt))))
def ks_B_isLand : wq_S := wq_sp 1 (fun rt xt => kt_B_isLand_0 rt xt)
-- BorderDesk.isDay(I)Z
def kt_B_isDay_0 (rt : Option wq_V → wq_W → Prop) (xt : Nat → wq_W → Prop) : wq_T := (wq_iload 0 (wq_iconst (nI 10000) (wq_call ks_B_isBelow 2 0 0 0 0 (wq_xout 0 0 xt) (wq_zreturn 0 0 rt))))
def ks_B_isDay : wq_S := wq_sp 1 (fun rt xt => kt_B_isDay_0 rt xt)
-- BorderDesk.isFact(I)Z
def kt_B_isFact_0 (rt : Option wq_V → wq_W → Prop) (xt : Nat → wq_W → Prop) : wq_T := (wq_iload 0 (wq_iconst (nI 8) (wq_call ks_B_isBelow 2 0 0 0 0 (wq_xout 0 0 xt) (wq_zreturn 0 0 rt))))
def ks_B_isFact : wq_S := wq_sp 1 (fun rt xt => kt_B_isFact_0 rt xt)
-- BorderDesk.requireArgument(Z)V
def kt_B_requireArgument_12 (rt : Option wq_V → wq_W → Prop) (xt : Nat → wq_W → Prop) : wq_T := (wq_vreturn 1 6 rt)
def kt_B_requireArgument_0 (rt : Option wq_V → wq_W → Prop) (xt : Nat → wq_W → Prop) : wq_T := (wq_iload 0 (wq_f1 (fun x => x = 0) (wq_throw 0 1 6 xt) (kt_B_requireArgument_12 rt xt)))
def ks_B_requireArgument : wq_S := wq_sp 1 (fun rt xt => kt_B_requireArgument_0 rt xt)
-- BorderDesk.requireState(Z)V
def kt_B_requireState_12 (rt : Option wq_V → wq_W → Prop) (xt : Nat → wq_W → Prop) : wq_T := (wq_vreturn 1 6 rt)
def kt_B_requireState_0 (rt : Option wq_V → wq_W → Prop) (xt : Nat → wq_W → Prop) : wq_T := (wq_iload 0 (wq_f1 (fun x => x = 0) (wq_throw 1 1 6 xt) (kt_B_requireState_12 rt xt)))
def ks_B_requireState : wq_S := wq_sp 1 (fun rt xt => kt_B_requireState_0 rt xt)
-- BorderDesk.requireElement(Z)V
def kt_B_requireElement_12 (rt : Option wq_V → wq_W → Prop) (xt : Nat → wq_W → Prop) : wq_T := (wq_vreturn 1 6 rt)
def kt_B_requireElement_0 (rt : Option wq_V → wq_W → Prop) (xt : Nat → wq_W → Prop) : wq_T := (wq_iload 0 (wq_f1 (fun x => x = 0) (wq_throw 2 1 6 xt) (kt_B_requireElement_12 rt xt)))
def ks_B_requireElement : wq_S := wq_sp 1 (fun rt xt => kt_B_requireElement_0 rt xt)
-- BorderDesk.requireRoom(I)V
def kt_B_requireRoom_14 (rt : Option wq_V → wq_W → Prop) (xt : Nat → wq_W → Prop) : wq_T := (wq_vreturn 1 6 rt)
def kt_B_requireRoom_0 (rt : Option wq_V → wq_W → Prop) (xt : Nat → wq_W → Prop) : wq_T := (wq_iload 0 (wq_iconst (nI 40) (wq_f2 (fun x y => x ≤ y) (kt_B_requireRoom_14 rt xt) (wq_throw 3 1 6 xt))))
def ks_B_requireRoom : wq_S := wq_sp 1 (fun rt xt => kt_B_requireRoom_0 rt xt)
-- BorderDesk.isHeading(I)Z
def kt_B_isHeading_0 (rt : Option wq_V → wq_W → Prop) (xt : Nat → wq_W → Prop) : wq_T := (wq_iload 1 (wq_aload 0 (wq_get 0 0 (wq_get 1 0 (wq_call ks_B_isBelow 2 0 0 0 0 (wq_xout 0 0 xt) (wq_zreturn 0 0 rt))))))
def ks_B_isHeading : wq_S := wq_sp 2 (fun rt xt => kt_B_isHeading_0 rt xt)
-- BorderDesk.isDeclaration(I)Z
def kt_B_isDeclaration_0 (rt : Option wq_V → wq_W → Prop) (xt : Nat → wq_W → Prop) : wq_T := (wq_iload 1 (wq_aload 0 (wq_get 0 4 (wq_get 5 0 (wq_call ks_B_isBelow 2 0 0 0 0 (wq_xout 0 0 xt) (wq_zreturn 0 0 rt))))))
def ks_B_isDeclaration : wq_S := wq_sp 2 (fun rt xt => kt_B_isDeclaration_0 rt xt)
-- BorderDesk.isLine(II)Z
def kt_B_isLine_29 (rt : Option wq_V → wq_W → Prop) (xt : Nat → wq_W → Prop) : wq_T := (wq_zreturn 0 0 rt)
def kt_B_isLine_28 (rt : Option wq_V → wq_W → Prop) (xt : Nat → wq_W → Prop) : wq_T := (wq_iconst (nI 0) (kt_B_isLine_29 rt xt))
def kt_B_isLine_0 (rt : Option wq_V → wq_W → Prop) (xt : Nat → wq_W → Prop) : wq_T := (wq_aload 0 (wq_iload 1 (wq_call (wq_rv 0 ks_B_isDeclaration) 2 0 0 0 0 (wq_xout 0 0 xt) (wq_f1 (fun x => x = 0) (kt_B_isLine_28 rt xt) (wq_iload 2 (wq_aload 0 (wq_get 0 4 (wq_get 5 3 (wq_iload 1 (wq_iald (wq_call ks_B_isBelow 2 0 0 0 0 (wq_xout 0 0 xt) (wq_f1 (fun x => x = 0) (kt_B_isLine_28 rt xt) (wq_iconst (nI 1) (kt_B_isLine_29 rt xt))))))))))))))
def ks_B_isLine : wq_S := wq_sp 3 (fun rt xt => kt_B_isLine_0 rt xt)
