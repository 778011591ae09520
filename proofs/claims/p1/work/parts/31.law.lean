def kt_W_law_2019 (N : Nat) (xs : Nat → Int32) (K : Nat → wq_T) : wq_T := (wq_iconst (nI 1) wq_lend)
def kt_W_law_2013 (N : Nat) (xs : Nat → Int32) (K : Nat → wq_T) : wq_T := (wq_iinc 4 (nI 8) (K 23))
def kt_W_law_205 (N : Nat) (xs : Nat → Int32) (K : Nat → wq_T) : wq_T := (kt_W_law_2013 N xs K)
def kt_W_law_188 (N : Nat) (xs : Nat → Int32) (K : Nat → wq_T) : wq_T := (wq_iload 5 (wq_f1 (fun x => x = 0) (wq_aload 3 (wq_iconst (nI 0) (wq_lald (wq_iload 6 (wq_i2l (wq_fl (fun x y => x = y) (kt_W_law_205 N xs K) (wq_iconst (nI 0) wq_lend))))))) (kt_W_law_205 N xs K)))
def kt_W_law_152 (N : Nat) (xs : Nat → Int32) (K : Nat → wq_T) : wq_T := (wq_aload 1 (wq_aload 0 (wq_iload 4 (wq_iconst (nI 1) (wq_i2 (fun x y => x + y) (wq_sld N xs (wq_aload 3 (wq_call ks_W_heading 3 3 18 600002 7302231 wq_x0 (wq_istore 5 (wq_aload 2 (wq_aload 0 (wq_iload 4 (wq_iconst (nI 1) (wq_i2 (fun x y => x + y) (wq_sld N xs (wq_call (wq_rv 9 ks_M_heading) 2 0 0 600002 7302231 wq_x0 (wq_istore 6 (wq_aload 2 (wq_call (wq_rv 9 ks_M_thrown) 1 0 0 600002 7302231 wq_x0 (wq_iload 5 (wq_f2 (fun x y => x = y) (kt_W_law_188 N xs K) (wq_iconst (nI 0) wq_lend))))))))))))))))))))))
def kt_W_law_297 (N : Nat) (xs : Nat → Int32) (K : Nat → wq_T) : wq_T := (kt_W_law_2013 N xs K)
def kt_W_law_280 (N : Nat) (xs : Nat → Int32) (K : Nat → wq_T) : wq_T := (wq_iload 5 (wq_f1 (fun x => x = 0) (wq_aload 3 (wq_iconst (nI 0) (wq_lald (wq_iload 6 (wq_i2l (wq_fl (fun x y => x = y) (kt_W_law_297 N xs K) (wq_iconst (nI 0) wq_lend))))))) (kt_W_law_297 N xs K)))
def kt_W_law_208 (N : Nat) (xs : Nat → Int32) (K : Nat → wq_T) : wq_T := (wq_aload 1 (wq_aload 0 (wq_iload 4 (wq_iconst (nI 1) (wq_i2 (fun x y => x + y) (wq_sld N xs (wq_aload 0 (wq_iload 4 (wq_iconst (nI 2) (wq_i2 (fun x y => x + y) (wq_sld N xs (wq_aload 0 (wq_iload 4 (wq_iconst (nI 3) (wq_i2 (fun x y => x + y) (wq_sld N xs (wq_aload 0 (wq_iload 4 (wq_iconst (nI 4) (wq_i2 (fun x y => x + y) (wq_sld N xs (wq_aload 3 (wq_call ks_W_note 6 5 30 600002 7302231 wq_x0 (wq_istore 5 (wq_aload 2 (wq_aload 0 (wq_iload 4 (wq_iconst (nI 1) (wq_i2 (fun x y => x + y) (wq_sld N xs (wq_aload 0 (wq_iload 4 (wq_iconst (nI 2) (wq_i2 (fun x y => x + y) (wq_sld N xs (wq_aload 0 (wq_iload 4 (wq_iconst (nI 3) (wq_i2 (fun x y => x + y) (wq_sld N xs (wq_aload 0 (wq_iload 4 (wq_iconst (nI 4) (wq_i2 (fun x y => x + y) (wq_sld N xs (wq_call (wq_rv 9 ks_M_note) 5 0 0 600002 7302231 wq_x0 (wq_istore 6 (wq_aload 2 (wq_call (wq_rv 9 ks_M_thrown) 1 0 0 600002 7302231 wq_x0 (wq_iload 5 (wq_f2 (fun x y => x = y) (kt_W_law_280 N xs K) (wq_iconst (nI 0) wq_lend))))))))))))))))))))))))))))))))))))))))))))))))))))
def kt_W_law_377 (N : Nat) (xs : Nat → Int32) (K : Nat → wq_T) : wq_T := (kt_W_law_2013 N xs K)
def kt_W_law_360 (N : Nat) (xs : Nat → Int32) (K : Nat → wq_T) : wq_T := (wq_iload 5 (wq_f1 (fun x => x = 0) (wq_aload 3 (wq_iconst (nI 0) (wq_lald (wq_iload 6 (wq_i2l (wq_fl (fun x y => x = y) (kt_W_law_377 N xs K) (wq_iconst (nI 0) wq_lend))))))) (kt_W_law_377 N xs K)))
def kt_W_law_300 (N : Nat) (xs : Nat → Int32) (K : Nat → wq_T) : wq_T := (wq_aload 1 (wq_aload 0 (wq_iload 4 (wq_iconst (nI 1) (wq_i2 (fun x y => x + y) (wq_sld N xs (wq_aload 0 (wq_iload 4 (wq_iconst (nI 2) (wq_i2 (fun x y => x + y) (wq_sld N xs (wq_aload 0 (wq_iload 4 (wq_iconst (nI 3) (wq_i2 (fun x y => x + y) (wq_sld N xs (wq_aload 3 (wq_call ks_W_fact 5 2 12 600002 7302231 wq_x0 (wq_istore 5 (wq_aload 2 (wq_aload 0 (wq_iload 4 (wq_iconst (nI 1) (wq_i2 (fun x y => x + y) (wq_sld N xs (wq_aload 0 (wq_iload 4 (wq_iconst (nI 2) (wq_i2 (fun x y => x + y) (wq_sld N xs (wq_aload 0 (wq_iload 4 (wq_iconst (nI 3) (wq_i2 (fun x y => x + y) (wq_sld N xs (wq_call (wq_rv 9 ks_M_fact) 4 0 0 600002 7302231 wq_x0 (wq_istore 6 (wq_aload 2 (wq_call (wq_rv 9 ks_M_thrown) 1 0 0 600002 7302231 wq_x0 (wq_iload 5 (wq_f2 (fun x y => x = y) (kt_W_law_360 N xs K) (wq_iconst (nI 0) wq_lend))))))))))))))))))))))))))))))))))))))))))
def kt_W_law_433 (N : Nat) (xs : Nat → Int32) (K : Nat → wq_T) : wq_T := (kt_W_law_2013 N xs K)
def kt_W_law_416 (N : Nat) (xs : Nat → Int32) (K : Nat → wq_T) : wq_T := (wq_iload 5 (wq_f1 (fun x => x = 0) (wq_aload 3 (wq_iconst (nI 0) (wq_lald (wq_iload 6 (wq_i2l (wq_fl (fun x y => x = y) (kt_W_law_433 N xs K) (wq_iconst (nI 0) wq_lend))))))) (kt_W_law_433 N xs K)))
def kt_W_law_380 (N : Nat) (xs : Nat → Int32) (K : Nat → wq_T) : wq_T := (wq_aload 1 (wq_aload 0 (wq_iload 4 (wq_iconst (nI 1) (wq_i2 (fun x y => x + y) (wq_sld N xs (wq_aload 3 (wq_call ks_W_classify 3 1 6 600002 7302231 wq_x0 (wq_istore 5 (wq_aload 2 (wq_aload 0 (wq_iload 4 (wq_iconst (nI 1) (wq_i2 (fun x y => x + y) (wq_sld N xs (wq_call (wq_rv 9 ks_M_classify) 2 0 0 600002 7302231 wq_x0 (wq_istore 6 (wq_aload 2 (wq_call (wq_rv 9 ks_M_thrown) 1 0 0 600002 7302231 wq_x0 (wq_iload 5 (wq_f2 (fun x y => x = y) (kt_W_law_416 N xs K) (wq_iconst (nI 0) wq_lend))))))))))))))))))))))
def kt_W_law_565 (N : Nat) (xs : Nat → Int32) (K : Nat → wq_T) : wq_T := (kt_W_law_2013 N xs K)
def kt_W_law_548 (N : Nat) (xs : Nat → Int32) (K : Nat → wq_T) : wq_T := (wq_iload 5 (wq_f1 (fun x => x = 0) (wq_aload 3 (wq_iconst (nI 0) (wq_lald (wq_iload 6 (wq_i2l (wq_fl (fun x y => x = y) (kt_W_law_565 N xs K) (wq_iconst (nI 0) wq_lend))))))) (kt_W_law_565 N xs K)))
def kt_W_law_436 (N : Nat) (xs : Nat → Int32) (K : Nat → wq_T) : wq_T := (wq_aload 1 (wq_aload 0 (wq_iload 4 (wq_iconst (nI 1) (wq_i2 (fun x y => x + y) (wq_sld N xs (wq_aload 0 (wq_iload 4 (wq_iconst (nI 2) (wq_i2 (fun x y => x + y) (wq_sld N xs (wq_aload 0 (wq_iload 4 (wq_iconst (nI 3) (wq_i2 (fun x y => x + y) (wq_sld N xs (wq_aload 0 (wq_iload 4 (wq_iconst (nI 4) (wq_i2 (fun x y => x + y) (wq_sld N xs (wq_aload 0 (wq_iload 4 (wq_iconst (nI 5) (wq_i2 (fun x y => x + y) (wq_sld N xs (wq_aload 0 (wq_iload 4 (wq_iconst (nI 6) (wq_i2 (fun x y => x + y) (wq_sld N xs (wq_aload 0 (wq_iload 4 (wq_iconst (nI 7) (wq_i2 (fun x y => x + y) (wq_sld N xs (wq_aload 3 (wq_call ks_W_rate 9 5 30 600002 7302231 wq_x0 (wq_istore 5 (wq_aload 2 (wq_aload 0 (wq_iload 4 (wq_iconst (nI 1) (wq_i2 (fun x y => x + y) (wq_sld N xs (wq_aload 0 (wq_iload 4 (wq_iconst (nI 2) (wq_i2 (fun x y => x + y) (wq_sld N xs (wq_aload 0 (wq_iload 4 (wq_iconst (nI 3) (wq_i2 (fun x y => x + y) (wq_sld N xs (wq_aload 0 (wq_iload 4 (wq_iconst (nI 4) (wq_i2 (fun x y => x + y) (wq_sld N xs (wq_aload 0 (wq_iload 4 (wq_iconst (nI 5) (wq_i2 (fun x y => x + y) (wq_sld N xs (wq_aload 0 (wq_iload 4 (wq_iconst (nI 6) (wq_i2 (fun x y => x + y) (wq_sld N xs (wq_aload 0 (wq_iload 4 (wq_iconst (nI 7) (wq_i2 (fun x y => x + y) (wq_sld N xs (wq_call (wq_rv 9 ks_M_rate) 8 0 0 600002 7302231 wq_x0 (wq_istore 6 (wq_aload 2 (wq_call (wq_rv 9 ks_M_thrown) 1 0 0 600002 7302231 wq_x0 (wq_iload 5 (wq_f2 (fun x y => x = y) (kt_W_law_548 N xs K) (wq_iconst (nI 0) wq_lend))))))))))))))))))))))))))))))))))))))))))))))))))))))))))))))))))))))))))))))))))
def kt_W_law_645 (N : Nat) (xs : Nat → Int32) (K : Nat → wq_T) : wq_T := (kt_W_law_2013 N xs K)
def kt_W_law_628 (N : Nat) (xs : Nat → Int32) (K : Nat → wq_T) : wq_T := (wq_iload 5 (wq_f1 (fun x => x = 0) (wq_aload 3 (wq_iconst (nI 0) (wq_lald (wq_iload 6 (wq_i2l (wq_fl (fun x y => x = y) (kt_W_law_645 N xs K) (wq_iconst (nI 0) wq_lend))))))) (kt_W_law_645 N xs K)))
def kt_W_law_568 (N : Nat) (xs : Nat → Int32) (K : Nat → wq_T) : wq_T := (wq_aload 1 (wq_aload 0 (wq_iload 4 (wq_iconst (nI 1) (wq_i2 (fun x y => x + y) (wq_sld N xs (wq_aload 0 (wq_iload 4 (wq_iconst (nI 2) (wq_i2 (fun x y => x + y) (wq_sld N xs (wq_aload 0 (wq_iload 4 (wq_iconst (nI 3) (wq_i2 (fun x y => x + y) (wq_sld N xs (wq_aload 3 (wq_call ks_W_rateFor 5 1 6 600002 7302231 wq_x0 (wq_istore 5 (wq_aload 2 (wq_aload 0 (wq_iload 4 (wq_iconst (nI 1) (wq_i2 (fun x y => x + y) (wq_sld N xs (wq_aload 0 (wq_iload 4 (wq_iconst (nI 2) (wq_i2 (fun x y => x + y) (wq_sld N xs (wq_aload 0 (wq_iload 4 (wq_iconst (nI 3) (wq_i2 (fun x y => x + y) (wq_sld N xs (wq_call (wq_rv 9 ks_M_rateFor) 4 0 0 600002 7302231 wq_x0 (wq_istore 6 (wq_aload 2 (wq_call (wq_rv 9 ks_M_thrown) 1 0 0 600002 7302231 wq_x0 (wq_iload 5 (wq_f2 (fun x y => x = y) (kt_W_law_628 N xs K) (wq_iconst (nI 0) wq_lend))))))))))))))))))))))))))))))))))))))))))
def kt_W_law_763 (N : Nat) (xs : Nat → Int32) (K : Nat → wq_T) : wq_T := (kt_W_law_2013 N xs K)
def kt_W_law_746 (N : Nat) (xs : Nat → Int32) (K : Nat → wq_T) : wq_T := (wq_iload 5 (wq_f1 (fun x => x = 0) (wq_aload 3 (wq_iconst (nI 0) (wq_lald (wq_iload 6 (wq_i2l (wq_fl (fun x y => x = y) (kt_W_law_763 N xs K) (wq_iconst (nI 0) wq_lend))))))) (kt_W_law_763 N xs K)))
def kt_W_law_648 (N : Nat) (xs : Nat → Int32) (K : Nat → wq_T) : wq_T := (wq_aload 1 (wq_aload 0 (wq_iload 4 (wq_iconst (nI 1) (wq_i2 (fun x y => x + y) (wq_sld N xs (wq_aload 0 (wq_iload 4 (wq_iconst (nI 2) (wq_i2 (fun x y => x + y) (wq_sld N xs (wq_aload 0 (wq_iload 4 (wq_iconst (nI 3) (wq_i2 (fun x y => x + y) (wq_sld N xs (wq_aload 0 (wq_iload 4 (wq_iconst (nI 4) (wq_i2 (fun x y => x + y) (wq_sld N xs (wq_aload 0 (wq_iload 4 (wq_iconst (nI 5) (wq_i2 (fun x y => x + y) (wq_sld N xs (wq_aload 0 (wq_iload 4 (wq_iconst (nI 6) (wq_i2 (fun x y => x + y) (wq_sld N xs (wq_aload 3 (wq_call ks_W_quota 8 4 24 600002 7302231 wq_x0 (wq_istore 5 (wq_aload 2 (wq_aload 0 (wq_iload 4 (wq_iconst (nI 1) (wq_i2 (fun x y => x + y) (wq_sld N xs (wq_aload 0 (wq_iload 4 (wq_iconst (nI 2) (wq_i2 (fun x y => x + y) (wq_sld N xs (wq_aload 0 (wq_iload 4 (wq_iconst (nI 3) (wq_i2 (fun x y => x + y) (wq_sld N xs (wq_aload 0 (wq_iload 4 (wq_iconst (nI 4) (wq_i2 (fun x y => x + y) (wq_sld N xs (wq_aload 0 (wq_iload 4 (wq_iconst (nI 5) (wq_i2 (fun x y => x + y) (wq_sld N xs (wq_aload 0 (wq_iload 4 (wq_iconst (nI 6) (wq_i2 (fun x y => x + y) (wq_sld N xs (wq_call (wq_rv 9 ks_M_quota) 7 0 0 600002 7302231 wq_x0 (wq_istore 6 (wq_aload 2 (wq_call (wq_rv 9 ks_M_thrown) 1 0 0 600002 7302231 wq_x0 (wq_iload 5 (wq_f2 (fun x y => x = y) (kt_W_law_746 N xs K) (wq_iconst (nI 0) wq_lend))))))))))))))))))))))))))))))))))))))))))))))))))))))))))))))))))))))))
def kt_W_law_819 (N : Nat) (xs : Nat → Int32) (K : Nat → wq_T) : wq_T := (kt_W_law_2013 N xs K)
def kt_W_law_802 (N : Nat) (xs : Nat → Int32) (K : Nat → wq_T) : wq_T := (wq_iload 5 (wq_f1 (fun x => x = 0) (wq_aload 3 (wq_iconst (nI 0) (wq_lald (wq_iload 6 (wq_i2l (wq_fl (fun x y => x = y) (kt_W_law_819 N xs K) (wq_iconst (nI 0) wq_lend))))))) (kt_W_law_819 N xs K)))
def kt_W_law_766 (N : Nat) (xs : Nat → Int32) (K : Nat → wq_T) : wq_T := (wq_aload 1 (wq_aload 0 (wq_iload 4 (wq_iconst (nI 1) (wq_i2 (fun x y => x + y) (wq_sld N xs (wq_aload 3 (wq_call ks_W_quotaLeft 3 1 6 600002 7302231 wq_x0 (wq_istore 5 (wq_aload 2 (wq_aload 0 (wq_iload 4 (wq_iconst (nI 1) (wq_i2 (fun x y => x + y) (wq_sld N xs (wq_call (wq_rv 9 ks_M_quotaLeft) 2 0 0 600002 7302231 wq_x0 (wq_istore 6 (wq_aload 2 (wq_call (wq_rv 9 ks_M_thrown) 1 0 0 600002 7302231 wq_x0 (wq_iload 5 (wq_f2 (fun x y => x = y) (kt_W_law_802 N xs K) (wq_iconst (nI 0) wq_lend))))))))))))))))))))))
def kt_W_law_911 (N : Nat) (xs : Nat → Int32) (K : Nat → wq_T) : wq_T := (kt_W_law_2013 N xs K)
def kt_W_law_894 (N : Nat) (xs : Nat → Int32) (K : Nat → wq_T) : wq_T := (wq_iload 5 (wq_f1 (fun x => x = 0) (wq_aload 3 (wq_iconst (nI 0) (wq_lald (wq_iload 6 (wq_i2l (wq_fl (fun x y => x = y) (kt_W_law_911 N xs K) (wq_iconst (nI 0) wq_lend))))))) (kt_W_law_911 N xs K)))
def kt_W_law_822 (N : Nat) (xs : Nat → Int32) (K : Nat → wq_T) : wq_T := (wq_aload 1 (wq_aload 0 (wq_iload 4 (wq_iconst (nI 1) (wq_i2 (fun x y => x + y) (wq_sld N xs (wq_aload 0 (wq_iload 4 (wq_iconst (nI 2) (wq_i2 (fun x y => x + y) (wq_sld N xs (wq_aload 0 (wq_iload 4 (wq_iconst (nI 3) (wq_i2 (fun x y => x + y) (wq_sld N xs (wq_aload 0 (wq_iload 4 (wq_iconst (nI 4) (wq_i2 (fun x y => x + y) (wq_sld N xs (wq_aload 3 (wq_call ks_W_part 6 4 24 600002 7302231 wq_x0 (wq_istore 5 (wq_aload 2 (wq_aload 0 (wq_iload 4 (wq_iconst (nI 1) (wq_i2 (fun x y => x + y) (wq_sld N xs (wq_aload 0 (wq_iload 4 (wq_iconst (nI 2) (wq_i2 (fun x y => x + y) (wq_sld N xs (wq_aload 0 (wq_iload 4 (wq_iconst (nI 3) (wq_i2 (fun x y => x + y) (wq_sld N xs (wq_aload 0 (wq_iload 4 (wq_iconst (nI 4) (wq_i2 (fun x y => x + y) (wq_sld N xs (wq_call (wq_rv 9 ks_M_part) 5 0 0 600002 7302231 wq_x0 (wq_istore 6 (wq_aload 2 (wq_call (wq_rv 9 ks_M_thrown) 1 0 0 600002 7302231 wq_x0 (wq_iload 5 (wq_f2 (fun x y => x = y) (kt_W_law_894 N xs K) (wq_iconst (nI 0) wq_lend))))))))))))))))))))))))))))))))))))))))))))))))))))
def kt_W_law_959 (N : Nat) (xs : Nat → Int32) (K : Nat → wq_T) : wq_T := (kt_W_law_2013 N xs K)
def kt_W_law_914 (N : Nat) (xs : Nat → Int32) (K : Nat → wq_T) : wq_T := (wq_aload 1 (wq_aload 0 (wq_iload 4 (wq_iconst (nI 1) (wq_i2 (fun x y => x + y) (wq_sld N xs (wq_aload 0 (wq_iload 4 (wq_iconst (nI 2) (wq_i2 (fun x y => x + y) (wq_sld N xs (wq_call ks_W_zone 3 2 12 600002 7302231 wq_x0 (wq_istore 5 (wq_aload 2 (wq_aload 0 (wq_iload 4 (wq_iconst (nI 1) (wq_i2 (fun x y => x + y) (wq_sld N xs (wq_aload 0 (wq_iload 4 (wq_iconst (nI 2) (wq_i2 (fun x y => x + y) (wq_sld N xs (wq_call (wq_rv 9 ks_M_zone) 3 0 0 600002 7302231 wq_x0 (wq_aload 2 (wq_call (wq_rv 9 ks_M_thrown) 1 0 0 600002 7302231 wq_x0 (wq_iload 5 (wq_f2 (fun x y => x = y) (kt_W_law_959 N xs K) (wq_iconst (nI 0) wq_lend))))))))))))))))))))))))))))))
def kt_W_law_1019 (N : Nat) (xs : Nat → Int32) (K : Nat → wq_T) : wq_T := (kt_W_law_2013 N xs K)
def kt_W_law_962 (N : Nat) (xs : Nat → Int32) (K : Nat → wq_T) : wq_T := (wq_aload 1 (wq_aload 0 (wq_iload 4 (wq_iconst (nI 1) (wq_i2 (fun x y => x + y) (wq_sld N xs (wq_aload 0 (wq_iload 4 (wq_iconst (nI 2) (wq_i2 (fun x y => x + y) (wq_sld N xs (wq_aload 0 (wq_iload 4 (wq_iconst (nI 3) (wq_i2 (fun x y => x + y) (wq_sld N xs (wq_call ks_W_rule 4 3 18 600002 7302231 wq_x0 (wq_istore 5 (wq_aload 2 (wq_aload 0 (wq_iload 4 (wq_iconst (nI 1) (wq_i2 (fun x y => x + y) (wq_sld N xs (wq_aload 0 (wq_iload 4 (wq_iconst (nI 2) (wq_i2 (fun x y => x + y) (wq_sld N xs (wq_aload 0 (wq_iload 4 (wq_iconst (nI 3) (wq_i2 (fun x y => x + y) (wq_sld N xs (wq_call (wq_rv 9 ks_M_rule) 4 0 0 600002 7302231 wq_x0 (wq_aload 2 (wq_call (wq_rv 9 ks_M_thrown) 1 0 0 600002 7302231 wq_x0 (wq_iload 5 (wq_f2 (fun x y => x = y) (kt_W_law_1019 N xs K) (wq_iconst (nI 0) wq_lend))))))))))))))))))))))))))))))))))))))))
def kt_W_law_1094 (N : Nat) (xs : Nat → Int32) (K : Nat → wq_T) : wq_T := (kt_W_law_2013 N xs K)
def kt_W_law_1088 (N : Nat) (xs : Nat → Int32) (K : Nat → wq_T) : wq_T := (wq_fl (fun x y => x = y) (kt_W_law_1094 N xs K) (wq_iconst (nI 0) wq_lend))
def kt_W_law_1087 (N : Nat) (xs : Nat → Int32) (K : Nat → wq_T) : wq_T := (wq_lconst (0 : Int64) (kt_W_law_1088 N xs K))
def kt_W_law_1070 (N : Nat) (xs : Nat → Int32) (K : Nat → wq_T) : wq_T := (wq_iload 5 (wq_f1 (fun x => x = 0) (wq_aload 3 (wq_iconst (nI 0) (wq_lald (wq_iload 6 (wq_f1 (fun x => x = 0) (kt_W_law_1087 N xs K) (wq_lconst (1 : Int64) (kt_W_law_1088 N xs K))))))) (kt_W_law_1094 N xs K)))
def kt_W_law_1022 (N : Nat) (xs : Nat → Int32) (K : Nat → wq_T) : wq_T := (wq_aload 1 (wq_aload 0 (wq_iload 4 (wq_iconst (nI 1) (wq_i2 (fun x y => x + y) (wq_sld N xs (wq_aload 0 (wq_iload 4 (wq_iconst (nI 2) (wq_i2 (fun x y => x + y) (wq_sld N xs (wq_aload 3 (wq_call ks_W_madeIn 4 1 6 600002 7302231 wq_x0 (wq_istore 5 (wq_aload 2 (wq_aload 0 (wq_iload 4 (wq_iconst (nI 1) (wq_i2 (fun x y => x + y) (wq_sld N xs (wq_aload 0 (wq_iload 4 (wq_iconst (nI 2) (wq_i2 (fun x y => x + y) (wq_sld N xs (wq_call (wq_rv 9 ks_M_madeIn) 3 0 0 600002 7302231 wq_x0 (wq_istore 6 (wq_aload 2 (wq_call (wq_rv 9 ks_M_thrown) 1 0 0 600002 7302231 wq_x0 (wq_iload 5 (wq_f2 (fun x y => x = y) (kt_W_law_1070 N xs K) (wq_iconst (nI 0) wq_lend))))))))))))))))))))))))))))))))
def kt_W_law_1162 (N : Nat) (xs : Nat → Int32) (K : Nat → wq_T) : wq_T := (kt_W_law_2013 N xs K)
def kt_W_law_1145 (N : Nat) (xs : Nat → Int32) (K : Nat → wq_T) : wq_T := (wq_iload 5 (wq_f1 (fun x => x = 0) (wq_aload 3 (wq_iconst (nI 0) (wq_lald (wq_iload 6 (wq_i2l (wq_fl (fun x y => x = y) (kt_W_law_1162 N xs K) (wq_iconst (nI 0) wq_lend))))))) (kt_W_law_1162 N xs K)))
def kt_W_law_1097 (N : Nat) (xs : Nat → Int32) (K : Nat → wq_T) : wq_T := (wq_aload 1 (wq_aload 0 (wq_iload 4 (wq_iconst (nI 1) (wq_i2 (fun x y => x + y) (wq_sld N xs (wq_aload 0 (wq_iload 4 (wq_iconst (nI 2) (wq_i2 (fun x y => x + y) (wq_sld N xs (wq_aload 3 (wq_call ks_W_declare 4 3 18 600002 7302231 wq_x0 (wq_istore 5 (wq_aload 2 (wq_aload 0 (wq_iload 4 (wq_iconst (nI 1) (wq_i2 (fun x y => x + y) (wq_sld N xs (wq_aload 0 (wq_iload 4 (wq_iconst (nI 2) (wq_i2 (fun x y => x + y) (wq_sld N xs (wq_call (wq_rv 9 ks_M_declare) 3 0 0 600002 7302231 wq_x0 (wq_istore 6 (wq_aload 2 (wq_call (wq_rv 9 ks_M_thrown) 1 0 0 600002 7302231 wq_x0 (wq_iload 5 (wq_f2 (fun x y => x = y) (kt_W_law_1145 N xs K) (wq_iconst (nI 0) wq_lend))))))))))))))))))))))))))))))))
def kt_W_law_1310 (N : Nat) (xs : Nat → Int32) (K : Nat → wq_T) : wq_T := (kt_W_law_2013 N xs K)
def kt_W_law_1293 (N : Nat) (xs : Nat → Int32) (K : Nat → wq_T) : wq_T := (wq_iload 5 (wq_f1 (fun x => x = 0) (wq_aload 3 (wq_iconst (nI 0) (wq_lald (wq_iload 6 (wq_i2l (wq_fl (fun x y => x = y) (kt_W_law_1310 N xs K) (wq_iconst (nI 0) wq_lend))))))) (kt_W_law_1310 N xs K)))
def kt_W_law_1277 (N : Nat) (xs : Nat → Int32) (K : Nat → wq_T) : wq_T := (wq_call (wq_rv 9 ks_M_line) 8 0 0 600002 7302231 wq_x0 (wq_istore 6 (wq_aload 2 (wq_call (wq_rv 9 ks_M_thrown) 1 0 0 600002 7302231 wq_x0 (wq_iload 5 (wq_f2 (fun x y => x = y) (kt_W_law_1293 N xs K) (wq_iconst (nI 0) wq_lend)))))))
def kt_W_law_1276 (N : Nat) (xs : Nat → Int32) (K : Nat → wq_T) : wq_T := (wq_iconst (nI 0) (kt_W_law_1277 N xs K))
def kt_W_law_1218 (N : Nat) (xs : Nat → Int32) (K : Nat → wq_T) : wq_T := (wq_aload 3 (wq_call ks_W_line 9 6 36 600002 7302231 wq_x0 (wq_istore 5 (wq_aload 2 (wq_aload 0 (wq_iload 4 (wq_iconst (nI 1) (wq_i2 (fun x y => x + y) (wq_sld N xs (wq_aload 0 (wq_iload 4 (wq_iconst (nI 2) (wq_i2 (fun x y => x + y) (wq_sld N xs (wq_aload 0 (wq_iload 4 (wq_iconst (nI 3) (wq_i2 (fun x y => x + y) (wq_sld N xs (wq_aload 0 (wq_iload 4 (wq_iconst (nI 4) (wq_i2 (fun x y => x + y) (wq_sld N xs (wq_aload 0 (wq_iload 4 (wq_iconst (nI 5) (wq_i2 (fun x y => x + y) (wq_sld N xs (wq_aload 0 (wq_iload 4 (wq_iconst (nI 6) (wq_i2 (fun x y => x + y) (wq_sld N xs (wq_aload 0 (wq_iload 4 (wq_iconst (nI 7) (wq_i2 (fun x y => x + y) (wq_sld N xs (wq_f1 (fun x => x = 0) (kt_W_law_1276 N xs K) (wq_iconst (nI 1) (kt_W_law_1277 N xs K))))))))))))))))))))))))))))))))))))))))))
def kt_W_law_1217 (N : Nat) (xs : Nat → Int32) (K : Nat → wq_T) : wq_T := (wq_iconst (nI 0) (kt_W_law_1218 N xs K))
def kt_W_law_1165 (N : Nat) (xs : Nat → Int32) (K : Nat → wq_T) : wq_T := (wq_aload 1 (wq_aload 0 (wq_iload 4 (wq_iconst (nI 1) (wq_i2 (fun x y => x + y) (wq_sld N xs (wq_aload 0 (wq_iload 4 (wq_iconst (nI 2) (wq_i2 (fun x y => x + y) (wq_sld N xs (wq_aload 0 (wq_iload 4 (wq_iconst (nI 3) (wq_i2 (fun x y => x + y) (wq_sld N xs (wq_aload 0 (wq_iload 4 (wq_iconst (nI 4) (wq_i2 (fun x y => x + y) (wq_sld N xs (wq_aload 0 (wq_iload 4 (wq_iconst (nI 5) (wq_i2 (fun x y => x + y) (wq_sld N xs (wq_aload 0 (wq_iload 4 (wq_iconst (nI 6) (wq_i2 (fun x y => x + y) (wq_sld N xs (wq_aload 0 (wq_iload 4 (wq_iconst (nI 7) (wq_i2 (fun x y => x + y) (wq_sld N xs (wq_f1 (fun x => x = 0) (kt_W_law_1217 N xs K) (wq_iconst (nI 1) (kt_W_law_1218 N xs K)))))))))))))))))))))))))))))))))))))))
def kt_W_law_1370 (N : Nat) (xs : Nat → Int32) (K : Nat → wq_T) : wq_T := (kt_W_law_2013 N xs K)
def kt_W_law_1313 (N : Nat) (xs : Nat → Int32) (K : Nat → wq_T) : wq_T := (wq_aload 1 (wq_aload 0 (wq_iload 4 (wq_iconst (nI 1) (wq_i2 (fun x y => x + y) (wq_sld N xs (wq_aload 0 (wq_iload 4 (wq_iconst (nI 2) (wq_i2 (fun x y => x + y) (wq_sld N xs (wq_aload 0 (wq_iload 4 (wq_iconst (nI 3) (wq_i2 (fun x y => x + y) (wq_sld N xs (wq_call ks_W_charge 4 4 24 600002 7302231 wq_x0 (wq_istore 5 (wq_aload 2 (wq_aload 0 (wq_iload 4 (wq_iconst (nI 1) (wq_i2 (fun x y => x + y) (wq_sld N xs (wq_aload 0 (wq_iload 4 (wq_iconst (nI 2) (wq_i2 (fun x y => x + y) (wq_sld N xs (wq_aload 0 (wq_iload 4 (wq_iconst (nI 3) (wq_i2 (fun x y => x + y) (wq_sld N xs (wq_call (wq_rv 9 ks_M_charge) 4 0 0 600002 7302231 wq_x0 (wq_aload 2 (wq_call (wq_rv 9 ks_M_thrown) 1 0 0 600002 7302231 wq_x0 (wq_iload 5 (wq_f2 (fun x y => x = y) (kt_W_law_1370 N xs K) (wq_iconst (nI 0) wq_lend))))))))))))))))))))))))))))))))))))))))
def kt_W_law_1449 (N : Nat) (xs : Nat → Int32) (K : Nat → wq_T) : wq_T := (kt_W_law_2013 N xs K)
def kt_W_law_1433 (N : Nat) (xs : Nat → Int32) (K : Nat → wq_T) : wq_T := (wq_iload 5 (wq_f1 (fun x => x = 0) (wq_aload 3 (wq_iconst (nI 0) (wq_lald (wq_lload 6 (wq_fl (fun x y => x = y) (kt_W_law_1449 N xs K) (wq_iconst (nI 0) wq_lend)))))) (kt_W_law_1449 N xs K)))
def kt_W_law_1373 (N : Nat) (xs : Nat → Int32) (K : Nat → wq_T) : wq_T := (wq_aload 1 (wq_aload 0 (wq_iload 4 (wq_iconst (nI 1) (wq_i2 (fun x y => x + y) (wq_sld N xs (wq_aload 0 (wq_iload 4 (wq_iconst (nI 2) (wq_i2 (fun x y => x + y) (wq_sld N xs (wq_aload 0 (wq_iload 4 (wq_iconst (nI 3) (wq_i2 (fun x y => x + y) (wq_sld N xs (wq_aload 3 (wq_call ks_W_lineOf 5 3 18 600002 7302231 wq_x0 (wq_istore 5 (wq_aload 2 (wq_aload 0 (wq_iload 4 (wq_iconst (nI 1) (wq_i2 (fun x y => x + y) (wq_sld N xs (wq_aload 0 (wq_iload 4 (wq_iconst (nI 2) (wq_i2 (fun x y => x + y) (wq_sld N xs (wq_aload 0 (wq_iload 4 (wq_iconst (nI 3) (wq_i2 (fun x y => x + y) (wq_sld N xs (wq_call (wq_rv 9 ks_M_lineOf) 4 0 0 600002 7302231 wq_x0 (wq_lstore 6 (wq_aload 2 (wq_call (wq_rv 9 ks_M_thrown) 1 0 0 600002 7302231 wq_x0 (wq_iload 5 (wq_f2 (fun x y => x = y) (kt_W_law_1433 N xs K) (wq_iconst (nI 0) wq_lend))))))))))))))))))))))))))))))))))))))))))
def kt_W_law_1504 (N : Nat) (xs : Nat → Int32) (K : Nat → wq_T) : wq_T := (kt_W_law_2013 N xs K)
def kt_W_law_1488 (N : Nat) (xs : Nat → Int32) (K : Nat → wq_T) : wq_T := (wq_iload 5 (wq_f1 (fun x => x = 0) (wq_aload 3 (wq_iconst (nI 0) (wq_lald (wq_lload 6 (wq_fl (fun x y => x = y) (kt_W_law_1504 N xs K) (wq_iconst (nI 0) wq_lend)))))) (kt_W_law_1504 N xs K)))
def kt_W_law_1452 (N : Nat) (xs : Nat → Int32) (K : Nat → wq_T) : wq_T := (wq_aload 1 (wq_aload 0 (wq_iload 4 (wq_iconst (nI 1) (wq_i2 (fun x y => x + y) (wq_sld N xs (wq_aload 3 (wq_call ks_W_accept 3 5 30 600002 7302231 wq_x0 (wq_istore 5 (wq_aload 2 (wq_aload 0 (wq_iload 4 (wq_iconst (nI 1) (wq_i2 (fun x y => x + y) (wq_sld N xs (wq_call (wq_rv 9 ks_M_accept) 2 0 0 600002 7302231 wq_x0 (wq_lstore 6 (wq_aload 2 (wq_call (wq_rv 9 ks_M_thrown) 1 0 0 600002 7302231 wq_x0 (wq_iload 5 (wq_f2 (fun x y => x = y) (kt_W_law_1488 N xs K) (wq_iconst (nI 0) wq_lend))))))))))))))))))))))
def kt_W_law_1595 (N : Nat) (xs : Nat → Int32) (K : Nat → wq_T) : wq_T := (kt_W_law_2013 N xs K)
def kt_W_law_1579 (N : Nat) (xs : Nat → Int32) (K : Nat → wq_T) : wq_T := (wq_iload 5 (wq_f1 (fun x => x = 0) (wq_aload 3 (wq_iconst (nI 0) (wq_lald (wq_lload 6 (wq_fl (fun x y => x = y) (kt_W_law_1595 N xs K) (wq_iconst (nI 0) wq_lend)))))) (kt_W_law_1595 N xs K)))
def kt_W_law_1507 (N : Nat) (xs : Nat → Int32) (K : Nat → wq_T) : wq_T := (wq_aload 1 (wq_aload 0 (wq_iload 4 (wq_iconst (nI 1) (wq_i2 (fun x y => x + y) (wq_sld N xs (wq_aload 0 (wq_iload 4 (wq_iconst (nI 2) (wq_i2 (fun x y => x + y) (wq_sld N xs (wq_aload 0 (wq_iload 4 (wq_iconst (nI 3) (wq_i2 (fun x y => x + y) (wq_sld N xs (wq_aload 0 (wq_iload 4 (wq_iconst (nI 4) (wq_i2 (fun x y => x + y) (wq_sld N xs (wq_aload 3 (wq_call ks_W_amend 6 5 30 600002 7302231 wq_x0 (wq_istore 5 (wq_aload 2 (wq_aload 0 (wq_iload 4 (wq_iconst (nI 1) (wq_i2 (fun x y => x + y) (wq_sld N xs (wq_aload 0 (wq_iload 4 (wq_iconst (nI 2) (wq_i2 (fun x y => x + y) (wq_sld N xs (wq_aload 0 (wq_iload 4 (wq_iconst (nI 3) (wq_i2 (fun x y => x + y) (wq_sld N xs (wq_aload 0 (wq_iload 4 (wq_iconst (nI 4) (wq_i2 (fun x y => x + y) (wq_sld N xs (wq_call (wq_rv 9 ks_M_amend) 5 0 0 600002 7302231 wq_x0 (wq_lstore 6 (wq_aload 2 (wq_call (wq_rv 9 ks_M_thrown) 1 0 0 600002 7302231 wq_x0 (wq_iload 5 (wq_f2 (fun x y => x = y) (kt_W_law_1579 N xs K) (wq_iconst (nI 0) wq_lend))))))))))))))))))))))))))))))))))))))))))))))))))))
def kt_W_law_1662 (N : Nat) (xs : Nat → Int32) (K : Nat → wq_T) : wq_T := (kt_W_law_2013 N xs K)
def kt_W_law_1646 (N : Nat) (xs : Nat → Int32) (K : Nat → wq_T) : wq_T := (wq_iload 5 (wq_f1 (fun x => x = 0) (wq_aload 3 (wq_iconst (nI 0) (wq_lald (wq_lload 6 (wq_fl (fun x y => x = y) (kt_W_law_1662 N xs K) (wq_iconst (nI 0) wq_lend)))))) (kt_W_law_1662 N xs K)))
def kt_W_law_1598 (N : Nat) (xs : Nat → Int32) (K : Nat → wq_T) : wq_T := (wq_aload 1 (wq_aload 0 (wq_iload 4 (wq_iconst (nI 1) (wq_i2 (fun x y => x + y) (wq_sld N xs (wq_aload 0 (wq_iload 4 (wq_iconst (nI 2) (wq_i2 (fun x y => x + y) (wq_sld N xs (wq_aload 3 (wq_call ks_W_release 4 3 18 600002 7302231 wq_x0 (wq_istore 5 (wq_aload 2 (wq_aload 0 (wq_iload 4 (wq_iconst (nI 1) (wq_i2 (fun x y => x + y) (wq_sld N xs (wq_aload 0 (wq_iload 4 (wq_iconst (nI 2) (wq_i2 (fun x y => x + y) (wq_sld N xs (wq_call (wq_rv 9 ks_M_release) 3 0 0 600002 7302231 wq_x0 (wq_lstore 6 (wq_aload 2 (wq_call (wq_rv 9 ks_M_thrown) 1 0 0 600002 7302231 wq_x0 (wq_iload 5 (wq_f2 (fun x y => x = y) (kt_W_law_1646 N xs K) (wq_iconst (nI 0) wq_lend))))))))))))))))))))))))))))))))
def kt_W_law_1729 (N : Nat) (xs : Nat → Int32) (K : Nat → wq_T) : wq_T := (kt_W_law_2013 N xs K)
def kt_W_law_1713 (N : Nat) (xs : Nat → Int32) (K : Nat → wq_T) : wq_T := (wq_iload 5 (wq_f1 (fun x => x = 0) (wq_aload 3 (wq_iconst (nI 0) (wq_lald (wq_lload 6 (wq_fl (fun x y => x = y) (kt_W_law_1729 N xs K) (wq_iconst (nI 0) wq_lend)))))) (kt_W_law_1729 N xs K)))
def kt_W_law_1665 (N : Nat) (xs : Nat → Int32) (K : Nat → wq_T) : wq_T := (wq_aload 1 (wq_aload 0 (wq_iload 4 (wq_iconst (nI 1) (wq_i2 (fun x y => x + y) (wq_sld N xs (wq_aload 0 (wq_iload 4 (wq_iconst (nI 2) (wq_i2 (fun x y => x + y) (wq_sld N xs (wq_aload 3 (wq_call ks_W_export 4 3 18 600002 7302231 wq_x0 (wq_istore 5 (wq_aload 2 (wq_aload 0 (wq_iload 4 (wq_iconst (nI 1) (wq_i2 (fun x y => x + y) (wq_sld N xs (wq_aload 0 (wq_iload 4 (wq_iconst (nI 2) (wq_i2 (fun x y => x + y) (wq_sld N xs (wq_call (wq_rv 9 ks_M_export) 3 0 0 600002 7302231 wq_x0 (wq_lstore 6 (wq_aload 2 (wq_call (wq_rv 9 ks_M_thrown) 1 0 0 600002 7302231 wq_x0 (wq_iload 5 (wq_f2 (fun x y => x = y) (kt_W_law_1713 N xs K) (wq_iconst (nI 0) wq_lend))))))))))))))))))))))))))))))))
def kt_W_law_1821 (N : Nat) (xs : Nat → Int32) (K : Nat → wq_T) : wq_T := (kt_W_law_2013 N xs K)
def kt_W_law_1804 (N : Nat) (xs : Nat → Int32) (K : Nat → wq_T) : wq_T := (wq_iload 5 (wq_f1 (fun x => x = 0) (wq_aload 3 (wq_iconst (nI 0) (wq_lald (wq_iload 6 (wq_i2l (wq_fl (fun x y => x = y) (kt_W_law_1821 N xs K) (wq_iconst (nI 0) wq_lend))))))) (kt_W_law_1821 N xs K)))
def kt_W_law_1732 (N : Nat) (xs : Nat → Int32) (K : Nat → wq_T) : wq_T := (wq_aload 1 (wq_aload 0 (wq_iload 4 (wq_iconst (nI 1) (wq_i2 (fun x y => x + y) (wq_sld N xs (wq_aload 0 (wq_iload 4 (wq_iconst (nI 2) (wq_i2 (fun x y => x + y) (wq_sld N xs (wq_aload 0 (wq_iload 4 (wq_iconst (nI 3) (wq_i2 (fun x y => x + y) (wq_sld N xs (wq_aload 0 (wq_iload 4 (wq_iconst (nI 4) (wq_i2 (fun x y => x + y) (wq_sld N xs (wq_aload 3 (wq_call ks_W_work 6 4 24 600002 7302231 wq_x0 (wq_istore 5 (wq_aload 2 (wq_aload 0 (wq_iload 4 (wq_iconst (nI 1) (wq_i2 (fun x y => x + y) (wq_sld N xs (wq_aload 0 (wq_iload 4 (wq_iconst (nI 2) (wq_i2 (fun x y => x + y) (wq_sld N xs (wq_aload 0 (wq_iload 4 (wq_iconst (nI 3) (wq_i2 (fun x y => x + y) (wq_sld N xs (wq_aload 0 (wq_iload 4 (wq_iconst (nI 4) (wq_i2 (fun x y => x + y) (wq_sld N xs (wq_call (wq_rv 9 ks_M_work) 5 0 0 600002 7302231 wq_x0 (wq_istore 6 (wq_aload 2 (wq_call (wq_rv 9 ks_M_thrown) 1 0 0 600002 7302231 wq_x0 (wq_iload 5 (wq_f2 (fun x y => x = y) (kt_W_law_1804 N xs K) (wq_iconst (nI 0) wq_lend))))))))))))))))))))))))))))))))))))))))))))))))))))
def kt_W_law_1888 (N : Nat) (xs : Nat → Int32) (K : Nat → wq_T) : wq_T := (kt_W_law_2013 N xs K)
def kt_W_law_1872 (N : Nat) (xs : Nat → Int32) (K : Nat → wq_T) : wq_T := (wq_iload 5 (wq_f1 (fun x => x = 0) (wq_aload 3 (wq_iconst (nI 0) (wq_lald (wq_lload 6 (wq_fl (fun x y => x = y) (kt_W_law_1888 N xs K) (wq_iconst (nI 0) wq_lend)))))) (kt_W_law_1888 N xs K)))
def kt_W_law_1824 (N : Nat) (xs : Nat → Int32) (K : Nat → wq_T) : wq_T := (wq_aload 1 (wq_aload 0 (wq_iload 4 (wq_iconst (nI 1) (wq_i2 (fun x y => x + y) (wq_sld N xs (wq_aload 0 (wq_iload 4 (wq_iconst (nI 2) (wq_i2 (fun x y => x + y) (wq_sld N xs (wq_aload 3 (wq_call ks_W_lot 4 2 12 600002 7302231 wq_x0 (wq_istore 5 (wq_aload 2 (wq_aload 0 (wq_iload 4 (wq_iconst (nI 1) (wq_i2 (fun x y => x + y) (wq_sld N xs (wq_aload 0 (wq_iload 4 (wq_iconst (nI 2) (wq_i2 (fun x y => x + y) (wq_sld N xs (wq_call (wq_rv 9 ks_M_lot) 3 0 0 600002 7302231 wq_x0 (wq_lstore 6 (wq_aload 2 (wq_call (wq_rv 9 ks_M_thrown) 1 0 0 600002 7302231 wq_x0 (wq_iload 5 (wq_f2 (fun x y => x = y) (kt_W_law_1872 N xs K) (wq_iconst (nI 0) wq_lend))))))))))))))))))))))))))))))))
def kt_W_law_1955 (N : Nat) (xs : Nat → Int32) (K : Nat → wq_T) : wq_T := (kt_W_law_2013 N xs K)
def kt_W_law_1939 (N : Nat) (xs : Nat → Int32) (K : Nat → wq_T) : wq_T := (wq_iload 5 (wq_f1 (fun x => x = 0) (wq_aload 3 (wq_iconst (nI 0) (wq_lald (wq_lload 6 (wq_fl (fun x y => x = y) (kt_W_law_1955 N xs K) (wq_iconst (nI 0) wq_lend)))))) (kt_W_law_1955 N xs K)))
def kt_W_law_1891 (N : Nat) (xs : Nat → Int32) (K : Nat → wq_T) : wq_T := (wq_aload 1 (wq_aload 0 (wq_iload 4 (wq_iconst (nI 1) (wq_i2 (fun x y => x + y) (wq_sld N xs (wq_aload 0 (wq_iload 4 (wq_iconst (nI 2) (wq_i2 (fun x y => x + y) (wq_sld N xs (wq_aload 3 (wq_call ks_W_account 4 2 12 600002 7302231 wq_x0 (wq_istore 5 (wq_aload 2 (wq_aload 0 (wq_iload 4 (wq_iconst (nI 1) (wq_i2 (fun x y => x + y) (wq_sld N xs (wq_aload 0 (wq_iload 4 (wq_iconst (nI 2) (wq_i2 (fun x y => x + y) (wq_sld N xs (wq_call (wq_rv 9 ks_M_account) 3 0 0 600002 7302231 wq_x0 (wq_lstore 6 (wq_aload 2 (wq_call (wq_rv 9 ks_M_thrown) 1 0 0 600002 7302231 wq_x0 (wq_iload 5 (wq_f2 (fun x y => x = y) (kt_W_law_1939 N xs K) (wq_iconst (nI 0) wq_lend))))))))))))))))))))))))))))))))
def kt_W_law_2010 (N : Nat) (xs : Nat → Int32) (K : Nat → wq_T) : wq_T := (kt_W_law_2013 N xs K)
def kt_W_law_1994 (N : Nat) (xs : Nat → Int32) (K : Nat → wq_T) : wq_T := (wq_iload 5 (wq_f1 (fun x => x = 0) (wq_aload 3 (wq_iconst (nI 0) (wq_lald (wq_lload 6 (wq_fl (fun x y => x = y) (kt_W_law_2010 N xs K) (wq_iconst (nI 0) wq_lend)))))) (kt_W_law_2010 N xs K)))
def kt_W_law_1958 (N : Nat) (xs : Nat → Int32) (K : Nat → wq_T) : wq_T := (wq_aload 1 (wq_aload 0 (wq_iload 4 (wq_iconst (nI 1) (wq_i2 (fun x y => x + y) (wq_sld N xs (wq_aload 3 (wq_call ks_W_books 3 1 6 600002 7302231 wq_x0 (wq_istore 5 (wq_aload 2 (wq_aload 0 (wq_iload 4 (wq_iconst (nI 1) (wq_i2 (fun x y => x + y) (wq_sld N xs (wq_call (wq_rv 9 ks_M_books) 2 0 0 600002 7302231 wq_x0 (wq_lstore 6 (wq_aload 2 (wq_call (wq_rv 9 ks_M_thrown) 1 0 0 600002 7302231 wq_x0 (wq_iload 5 (wq_f2 (fun x y => x = y) (kt_W_law_1994 N xs K) (wq_iconst (nI 0) wq_lend))))))))))))))))))))))
def kh_W_law_23 (N : Nat) (xs : Nat → Int32) (K : Nat → wq_T) : wq_T := (wq_iload 4 (wq_aload 0 (wq_slen N (wq_iconst (nI 8) (wq_i2 (fun x y => x - y) (wq_f2 (fun x y => y < x) (kt_W_law_2019 N xs K) (wq_aload 0 (wq_iload 4 (wq_sld N xs (wq_iconst (nI 31) (wq_i2 (fun x y => x &&& y) (wq_sw [((nI 0), (kt_W_law_152 N xs K)), ((nI 1), (kt_W_law_208 N xs K)), ((nI 2), (kt_W_law_300 N xs K)), ((nI 3), (kt_W_law_380 N xs K)), ((nI 4), (kt_W_law_436 N xs K)), ((nI 5), (kt_W_law_568 N xs K)), ((nI 6), (kt_W_law_648 N xs K)), ((nI 7), (kt_W_law_766 N xs K)), ((nI 8), (kt_W_law_822 N xs K)), ((nI 9), (kt_W_law_914 N xs K)), ((nI 10), (kt_W_law_962 N xs K)), ((nI 11), (kt_W_law_1022 N xs K)), ((nI 12), (kt_W_law_1097 N xs K)), ((nI 13), (kt_W_law_1165 N xs K)), ((nI 14), (kt_W_law_1313 N xs K)), ((nI 15), (kt_W_law_1373 N xs K)), ((nI 16), (kt_W_law_1452 N xs K)), ((nI 17), (kt_W_law_1507 N xs K)), ((nI 18), (kt_W_law_1598 N xs K)), ((nI 19), (kt_W_law_1665 N xs K)), ((nI 20), (kt_W_law_1732 N xs K)), ((nI 21), (kt_W_law_1824 N xs K)), ((nI 22), (kt_W_law_1891 N xs K)), ((nI 23), (kt_W_law_1958 N xs K))] (kt_W_law_2013 N xs K)))))))))))))
def kt_W_law_0 (N : Nat) (xs : Nat → Int32) (K : Nat → wq_T) : wq_T := (wq_new 0 8 0 0 600002 7302231 kg_B (wq_dup (wq_callA (wq_rc ks_B_init) 1 146 2029 600002 7302231 1 0 (wq_astore 1 (wq_new 9 68 71 0 600002 7302231 kg_M (wq_dup (wq_callA (wq_rc ks_M_init) 1 58 1912 600002 7302231 72 0 (wq_astore 2 (wq_iconst (nI 1) (wq_newa 1 130 0 600002 7302231 (wq_astore 3 (wq_iconst (nI 0) (wq_istore 4 (K 23))))))))))))))
section KLAW
variable {p : Program} {l : Launch} {e : Env} {s : State} {m : MethodId} {below : List Frame} {meth : Method} {c : Code} {cs : Nat → ClassId} {D : va_G} {A : Nat → Prop} {Ag : wq_Ad → Prop} {N b : Nat} {xs : Nat → Int32}
theorem kl_end_ok {pc : Nat} (h0 : p.tables.exec = Jvm.exec ∧ c.code = code) (hr : meth.sig.returnType = ret) (hlk : meth.locks = false) (hd : decode code pc = .ok (.ireturn, 1)) (hA9 : ∀ q, A q → s.heap.size ≤ q) : wq_Snd p l e room_1 s m #[Value.ref b] below meth c 8 cs D kz_cl A Ag (lw_Z below #[Value.ref b] s) pc wq_lend := by
  intro L S w n1 n2 h ad ls H locs hG hl hP hD hS
  unfold wq_lend at h
  split at h
  · obtain ⟨rfl, h⟩ := h
    obtain ⟨h1, h2, -⟩ := wq_le2 h
    exact va_forget (fun q hq => hA9 _ (hS.2.2 q hq)) (W.widen h1 h2 (lw_ret h0.1 h0.2 hr hlk hd))
  · exact h.elim
set_option maxRecDepth 100000 in
set_option maxHeartbeats 40000000 in
theorem kl_ok (hl : l.stackTraces = false) (h0 : p.tables.exec = Jvm.exec ∧ c.code = code) (hr : meth.sig.returnType = ret) (hlk : meth.locks = false) (hml : c.maxLocals = 8) (hown : s.vm.findClass "BorderDeskLaw" = some m.cls) (hts : ∀ w ∈ kw_T, w.before #[Value.ref b] s = true) (hK : va_K D kz_cl (wq_tys cs) s) (hZ : wq_Z A s s.heap) (hN : wq_N s) (hA : ∀ q, s.heap.size ≤ q → A q) (hA9 : ∀ q, A q → s.heap.size ≤ q) (hAg : wq_AgOK Ag 0) (hX : va_X b N xs s s.heap) (hN9 : N < 2 ^ 31) (hbl : b < s.heap.size) (hbA : ¬ A b) (hg : ∀ ad, Ag ad → ad 100000 0 = b) (K : Nat → wq_T) (hKc : ∀ pc, pc ∈ [23] → wq_Snd p l e room_1 s m #[Value.ref b] below meth c 8 cs D kz_cl A Ag (lw_Z below #[Value.ref b] s) pc (K pc)) : wq_Snd p l e room_1 s m #[Value.ref b] below meth c 8 cs D kz_cl A Ag (lw_Z below #[Value.ref b] s) 23 (kh_W_law_23 N xs K) ∧ wq_Snd p l e room_1 s m #[Value.ref b] below meth c 8 cs D kz_cl A Ag (lw_Z below #[Value.ref b] s) 0 (kt_W_law_0 N xs K) := by
  have hb_2019 : wq_Snd p l e room_1 s m #[Value.ref b] below meth c 8 cs D kz_cl A Ag (lw_Z below #[Value.ref b] s) 2019 (kt_W_law_2019 N xs K) := by
    refine wq_iconst_ok h0 kd_W_law_2019 (by decide +kernel) ?_
    exact kl_end_ok h0 hr hlk kd_W_law_2020 hA9
  have hb_2013 : wq_Snd p l e room_1 s m #[Value.ref b] below meth c 8 cs D kz_cl A Ag (lw_Z below #[Value.ref b] s) 2013 (kt_W_law_2013 N xs K) := by
    refine wq_iinc_ok h0 kd_W_law_2013 (by decide +kernel) (Nat.le_of_ble_eq_true rfl) ?_
    refine wq_goto_ok (tgt := 23) h0 kd_W_law_2016 (by decide) ?_
    exact hKc 23 (by decide)
  have hb_205 : wq_Snd p l e room_1 s m #[Value.ref b] below meth c 8 cs D kz_cl A Ag (lw_Z below #[Value.ref b] s) 205 (kt_W_law_205 N xs K) := by
    refine wq_goto_ok (tgt := 2013) h0 kd_W_law_205 (by decide) ?_
    exact hb_2013
  have hb_188 : wq_Snd p l e room_1 s m #[Value.ref b] below meth c 8 cs D kz_cl A Ag (lw_Z below #[Value.ref b] s) 188 (kt_W_law_188 N xs K) := by
    refine wq_iload_ok h0 kd_W_law_188 ?_
    refine wq_if_ne_ok (tgt := 205) h0 kd_W_law_190 (by decide) ?_ ?_
    · exact hb_205
    refine wq_aload_n_ok h0 kd_W_law_193 rfl ?_
    refine wq_iconst_ok h0 kd_W_law_194 (by decide +kernel) ?_
    refine wq_lald_ok h0 hK kd_W_law_195 ?_
    refine wq_iload_ok h0 kd_W_law_196 ?_
    refine wq_i2l_ok h0 kd_W_law_198 ?_
    refine wq_lcmp_eq_ok (tgt := 205) h0 kd_W_law_199 kd_W_law_200 (by decide) ?_ ?_
    · exact hb_205
    refine wq_iconst_ok h0 kd_W_law_203 (by decide +kernel) ?_
    exact kl_end_ok h0 hr hlk kd_W_law_204 hA9
  have hb_152 : wq_Snd p l e room_1 s m #[Value.ref b] below meth c 8 cs D kz_cl A Ag (lw_Z below #[Value.ref b] s) 152 (kt_W_law_152 N xs K) := by
    refine wq_aload_n_ok h0 kd_W_law_152 rfl ?_
    refine wq_aload_n_ok h0 kd_W_law_153 rfl ?_
    refine wq_iload_ok h0 kd_W_law_154 ?_
    refine wq_iconst_ok h0 kd_W_law_156 (by decide +kernel) ?_
    refine wq_iadd_ok h0 kd_W_law_157 ?_
    refine wq_sld_ok h0 hX hN9 hbl hbA hg kd_W_law_158 ?_
    refine wq_aload_n_ok h0 kd_W_law_159 rfl ?_
    refine wq_call_ok hA (wq_runSH ⟨h0.1, h0.2, hml, hown, hts⟩ (kv_W_heading hl) kw_G kw_397 kw_0 kw_395 kw_396 ⟨by decide +kernel, by decide +kernel, by decide +kernel⟩ rfl rfl ⟨Nat.le_of_ble_eq_true rfl, Nat.le_of_ble_eq_true rfl⟩ hK hZ hN hA kd_W_law_160) wq_x0_ok ?_
    refine wq_istore_ok h0 kd_W_law_163 (Nat.le_of_ble_eq_true rfl) ?_
    refine wq_aload_n_ok h0 kd_W_law_165 rfl ?_
    refine wq_aload_n_ok h0 kd_W_law_166 rfl ?_
    refine wq_iload_ok h0 kd_W_law_167 ?_
    refine wq_iconst_ok h0 kd_W_law_169 (by decide +kernel) ?_
    refine wq_iadd_ok h0 kd_W_law_170 ?_
    refine wq_sld_ok h0 hX hN9 hbl hbA hg kd_W_law_171 ?_
    refine wq_call_ok hA (wq_runV (ci := 9) ⟨h0.1, h0.2, hml, hown, hts⟩ (kv_M_heading hl) ⟨(wq_cB hts kw_G kw_1194 kw_10 kw_1191 ⟨by decide +kernel, by decide +kernel, by decide +kernel⟩ rfl rfl ⟨Nat.le_of_ble_eq_true rfl, Nat.le_of_ble_eq_true rfl⟩), hts _ kw_1192, hts _ kw_1193⟩ rfl rfl hK hZ hN hA kd_W_law_172) wq_x0_ok ?_
    refine wq_istore_ok h0 kd_W_law_175 (Nat.le_of_ble_eq_true rfl) ?_
    refine wq_aload_n_ok h0 kd_W_law_177 rfl ?_
    refine wq_call_ok hA (wq_runV (ci := 9) ⟨h0.1, h0.2, hml, hown, hts⟩ (kv_M_thrown hl) ⟨(wq_cB hts kw_G kw_1190 kw_10 kw_1187 ⟨by decide +kernel, by decide +kernel, by decide +kernel⟩ rfl rfl ⟨Nat.le_of_ble_eq_true rfl, Nat.le_of_ble_eq_true rfl⟩), hts _ kw_1188, hts _ kw_1189⟩ rfl rfl hK hZ hN hA kd_W_law_178) wq_x0_ok ?_
    refine wq_iload_ok h0 kd_W_law_181 ?_
    refine wq_icmp_eq_ok (tgt := 188) h0 kd_W_law_183 (by decide) ?_ ?_
    · exact hb_188
    refine wq_iconst_ok h0 kd_W_law_186 (by decide +kernel) ?_
    exact kl_end_ok h0 hr hlk kd_W_law_187 hA9
  have hb_297 : wq_Snd p l e room_1 s m #[Value.ref b] below meth c 8 cs D kz_cl A Ag (lw_Z below #[Value.ref b] s) 297 (kt_W_law_297 N xs K) := by
    refine wq_goto_ok (tgt := 2013) h0 kd_W_law_297 (by decide) ?_
    exact hb_2013
  have hb_280 : wq_Snd p l e room_1 s m #[Value.ref b] below meth c 8 cs D kz_cl A Ag (lw_Z below #[Value.ref b] s) 280 (kt_W_law_280 N xs K) := by
    refine wq_iload_ok h0 kd_W_law_280 ?_
    refine wq_if_ne_ok (tgt := 297) h0 kd_W_law_282 (by decide) ?_ ?_
    · exact hb_297
    refine wq_aload_n_ok h0 kd_W_law_285 rfl ?_
    refine wq_iconst_ok h0 kd_W_law_286 (by decide +kernel) ?_
    refine wq_lald_ok h0 hK kd_W_law_287 ?_
    refine wq_iload_ok h0 kd_W_law_288 ?_
    refine wq_i2l_ok h0 kd_W_law_290 ?_
    refine wq_lcmp_eq_ok (tgt := 297) h0 kd_W_law_291 kd_W_law_292 (by decide) ?_ ?_
    · exact hb_297
    refine wq_iconst_ok h0 kd_W_law_295 (by decide +kernel) ?_
    exact kl_end_ok h0 hr hlk kd_W_law_296 hA9
  have hb_208 : wq_Snd p l e room_1 s m #[Value.ref b] below meth c 8 cs D kz_cl A Ag (lw_Z below #[Value.ref b] s) 208 (kt_W_law_208 N xs K) := by
    refine wq_aload_n_ok h0 kd_W_law_208 rfl ?_
    refine wq_aload_n_ok h0 kd_W_law_209 rfl ?_
    refine wq_iload_ok h0 kd_W_law_210 ?_
    refine wq_iconst_ok h0 kd_W_law_212 (by decide +kernel) ?_
    refine wq_iadd_ok h0 kd_W_law_213 ?_
    refine wq_sld_ok h0 hX hN9 hbl hbA hg kd_W_law_214 ?_
    refine wq_aload_n_ok h0 kd_W_law_215 rfl ?_
    refine wq_iload_ok h0 kd_W_law_216 ?_
    refine wq_iconst_ok h0 kd_W_law_218 (by decide +kernel) ?_
    refine wq_iadd_ok h0 kd_W_law_219 ?_
    refine wq_sld_ok h0 hX hN9 hbl hbA hg kd_W_law_220 ?_
    refine wq_aload_n_ok h0 kd_W_law_221 rfl ?_
    refine wq_iload_ok h0 kd_W_law_222 ?_
    refine wq_iconst_ok h0 kd_W_law_224 (by decide +kernel) ?_
    refine wq_iadd_ok h0 kd_W_law_225 ?_
    refine wq_sld_ok h0 hX hN9 hbl hbA hg kd_W_law_226 ?_
    refine wq_aload_n_ok h0 kd_W_law_227 rfl ?_
    refine wq_iload_ok h0 kd_W_law_228 ?_
    refine wq_iconst_ok h0 kd_W_law_230 (by decide +kernel) ?_
    refine wq_iadd_ok h0 kd_W_law_231 ?_
    refine wq_sld_ok h0 hX hN9 hbl hbA hg kd_W_law_232 ?_
    refine wq_aload_n_ok h0 kd_W_law_233 rfl ?_
    refine wq_call_ok hA (wq_runSH ⟨h0.1, h0.2, hml, hown, hts⟩ (kv_W_note hl) kw_G kw_507 kw_0 kw_505 kw_506 ⟨by decide +kernel, by decide +kernel, by decide +kernel⟩ rfl rfl ⟨Nat.le_of_ble_eq_true rfl, Nat.le_of_ble_eq_true rfl⟩ hK hZ hN hA kd_W_law_234) wq_x0_ok ?_
    refine wq_istore_ok h0 kd_W_law_237 (Nat.le_of_ble_eq_true rfl) ?_
    refine wq_aload_n_ok h0 kd_W_law_239 rfl ?_
    refine wq_aload_n_ok h0 kd_W_law_240 rfl ?_
    refine wq_iload_ok h0 kd_W_law_241 ?_
    refine wq_iconst_ok h0 kd_W_law_243 (by decide +kernel) ?_
    refine wq_iadd_ok h0 kd_W_law_244 ?_
    refine wq_sld_ok h0 hX hN9 hbl hbA hg kd_W_law_245 ?_
    refine wq_aload_n_ok h0 kd_W_law_246 rfl ?_
    refine wq_iload_ok h0 kd_W_law_247 ?_
    refine wq_iconst_ok h0 kd_W_law_249 (by decide +kernel) ?_
    refine wq_iadd_ok h0 kd_W_law_250 ?_
    refine wq_sld_ok h0 hX hN9 hbl hbA hg kd_W_law_251 ?_
    refine wq_aload_n_ok h0 kd_W_law_252 rfl ?_
    refine wq_iload_ok h0 kd_W_law_253 ?_
    refine wq_iconst_ok h0 kd_W_law_255 (by decide +kernel) ?_
    refine wq_iadd_ok h0 kd_W_law_256 ?_
    refine wq_sld_ok h0 hX hN9 hbl hbA hg kd_W_law_257 ?_
    refine wq_aload_n_ok h0 kd_W_law_258 rfl ?_
    refine wq_iload_ok h0 kd_W_law_259 ?_
    refine wq_iconst_ok h0 kd_W_law_261 (by decide +kernel) ?_
    refine wq_iadd_ok h0 kd_W_law_262 ?_
    refine wq_sld_ok h0 hX hN9 hbl hbA hg kd_W_law_263 ?_
    refine wq_call_ok hA (wq_runV (ci := 9) ⟨h0.1, h0.2, hml, hown, hts⟩ (kv_M_note hl) ⟨(wq_cB hts kw_G kw_1206 kw_10 kw_1203 ⟨by decide +kernel, by decide +kernel, by decide +kernel⟩ rfl rfl ⟨Nat.le_of_ble_eq_true rfl, Nat.le_of_ble_eq_true rfl⟩), hts _ kw_1204, hts _ kw_1205⟩ rfl rfl hK hZ hN hA kd_W_law_264) wq_x0_ok ?_
    refine wq_istore_ok h0 kd_W_law_267 (Nat.le_of_ble_eq_true rfl) ?_
    refine wq_aload_n_ok h0 kd_W_law_269 rfl ?_
    refine wq_call_ok hA (wq_runV (ci := 9) ⟨h0.1, h0.2, hml, hown, hts⟩ (kv_M_thrown hl) ⟨(wq_cB hts kw_G kw_1190 kw_10 kw_1187 ⟨by decide +kernel, by decide +kernel, by decide +kernel⟩ rfl rfl ⟨Nat.le_of_ble_eq_true rfl, Nat.le_of_ble_eq_true rfl⟩), hts _ kw_1188, hts _ kw_1189⟩ rfl rfl hK hZ hN hA kd_W_law_270) wq_x0_ok ?_
    refine wq_iload_ok h0 kd_W_law_273 ?_
    refine wq_icmp_eq_ok (tgt := 280) h0 kd_W_law_275 (by decide) ?_ ?_
    · exact hb_280
    refine wq_iconst_ok h0 kd_W_law_278 (by decide +kernel) ?_
    exact kl_end_ok h0 hr hlk kd_W_law_279 hA9
  have hb_377 : wq_Snd p l e room_1 s m #[Value.ref b] below meth c 8 cs D kz_cl A Ag (lw_Z below #[Value.ref b] s) 377 (kt_W_law_377 N xs K) := by
    refine wq_goto_ok (tgt := 2013) h0 kd_W_law_377 (by decide) ?_
    exact hb_2013
  have hb_360 : wq_Snd p l e room_1 s m #[Value.ref b] below meth c 8 cs D kz_cl A Ag (lw_Z below #[Value.ref b] s) 360 (kt_W_law_360 N xs K) := by
    refine wq_iload_ok h0 kd_W_law_360 ?_
    refine wq_if_ne_ok (tgt := 377) h0 kd_W_law_362 (by decide) ?_ ?_
    · exact hb_377
    refine wq_aload_n_ok h0 kd_W_law_365 rfl ?_
    refine wq_iconst_ok h0 kd_W_law_366 (by decide +kernel) ?_
    refine wq_lald_ok h0 hK kd_W_law_367 ?_
    refine wq_iload_ok h0 kd_W_law_368 ?_
    refine wq_i2l_ok h0 kd_W_law_370 ?_
    refine wq_lcmp_eq_ok (tgt := 377) h0 kd_W_law_371 kd_W_law_372 (by decide) ?_ ?_
    · exact hb_377
    refine wq_iconst_ok h0 kd_W_law_375 (by decide +kernel) ?_
    exact kl_end_ok h0 hr hlk kd_W_law_376 hA9
  have hb_300 : wq_Snd p l e room_1 s m #[Value.ref b] below meth c 8 cs D kz_cl A Ag (lw_Z below #[Value.ref b] s) 300 (kt_W_law_300 N xs K) := by
    refine wq_aload_n_ok h0 kd_W_law_300 rfl ?_
    refine wq_aload_n_ok h0 kd_W_law_301 rfl ?_
    refine wq_iload_ok h0 kd_W_law_302 ?_
    refine wq_iconst_ok h0 kd_W_law_304 (by decide +kernel) ?_
    refine wq_iadd_ok h0 kd_W_law_305 ?_
    refine wq_sld_ok h0 hX hN9 hbl hbA hg kd_W_law_306 ?_
    refine wq_aload_n_ok h0 kd_W_law_307 rfl ?_
    refine wq_iload_ok h0 kd_W_law_308 ?_
    refine wq_iconst_ok h0 kd_W_law_310 (by decide +kernel) ?_
    refine wq_iadd_ok h0 kd_W_law_311 ?_
    refine wq_sld_ok h0 hX hN9 hbl hbA hg kd_W_law_312 ?_
    refine wq_aload_n_ok h0 kd_W_law_313 rfl ?_
    refine wq_iload_ok h0 kd_W_law_314 ?_
    refine wq_iconst_ok h0 kd_W_law_316 (by decide +kernel) ?_
    refine wq_iadd_ok h0 kd_W_law_317 ?_
    refine wq_sld_ok h0 hX hN9 hbl hbA hg kd_W_law_318 ?_
    refine wq_aload_n_ok h0 kd_W_law_319 rfl ?_
    refine wq_call_ok hA (wq_runSH ⟨h0.1, h0.2, hml, hown, hts⟩ (kv_W_fact hl) kw_G kw_524 kw_0 kw_522 kw_523 ⟨by decide +kernel, by decide +kernel, by decide +kernel⟩ rfl rfl ⟨Nat.le_of_ble_eq_true rfl, Nat.le_of_ble_eq_true rfl⟩ hK hZ hN hA kd_W_law_320) wq_x0_ok ?_
    refine wq_istore_ok h0 kd_W_law_323 (Nat.le_of_ble_eq_true rfl) ?_
    refine wq_aload_n_ok h0 kd_W_law_325 rfl ?_
    refine wq_aload_n_ok h0 kd_W_law_326 rfl ?_
    refine wq_iload_ok h0 kd_W_law_327 ?_
    refine wq_iconst_ok h0 kd_W_law_329 (by decide +kernel) ?_
    refine wq_iadd_ok h0 kd_W_law_330 ?_
    refine wq_sld_ok h0 hX hN9 hbl hbA hg kd_W_law_331 ?_
    refine wq_aload_n_ok h0 kd_W_law_332 rfl ?_
    refine wq_iload_ok h0 kd_W_law_333 ?_
    refine wq_iconst_ok h0 kd_W_law_335 (by decide +kernel) ?_
    refine wq_iadd_ok h0 kd_W_law_336 ?_
    refine wq_sld_ok h0 hX hN9 hbl hbA hg kd_W_law_337 ?_
    refine wq_aload_n_ok h0 kd_W_law_338 rfl ?_
    refine wq_iload_ok h0 kd_W_law_339 ?_
    refine wq_iconst_ok h0 kd_W_law_341 (by decide +kernel) ?_
    refine wq_iadd_ok h0 kd_W_law_342 ?_
    refine wq_sld_ok h0 hX hN9 hbl hbA hg kd_W_law_343 ?_
    refine wq_call_ok hA (wq_runV (ci := 9) ⟨h0.1, h0.2, hml, hown, hts⟩ (kv_M_fact hl) ⟨(wq_cB hts kw_G kw_1213 kw_10 kw_1210 ⟨by decide +kernel, by decide +kernel, by decide +kernel⟩ rfl rfl ⟨Nat.le_of_ble_eq_true rfl, Nat.le_of_ble_eq_true rfl⟩), hts _ kw_1211, hts _ kw_1212⟩ rfl rfl hK hZ hN hA kd_W_law_344) wq_x0_ok ?_
    refine wq_istore_ok h0 kd_W_law_347 (Nat.le_of_ble_eq_true rfl) ?_
    refine wq_aload_n_ok h0 kd_W_law_349 rfl ?_
    refine wq_call_ok hA (wq_runV (ci := 9) ⟨h0.1, h0.2, hml, hown, hts⟩ (kv_M_thrown hl) ⟨(wq_cB hts kw_G kw_1190 kw_10 kw_1187 ⟨by decide +kernel, by decide +kernel, by decide +kernel⟩ rfl rfl ⟨Nat.le_of_ble_eq_true rfl, Nat.le_of_ble_eq_true rfl⟩), hts _ kw_1188, hts _ kw_1189⟩ rfl rfl hK hZ hN hA kd_W_law_350) wq_x0_ok ?_
    refine wq_iload_ok h0 kd_W_law_353 ?_
    refine wq_icmp_eq_ok (tgt := 360) h0 kd_W_law_355 (by decide) ?_ ?_
    · exact hb_360
    refine wq_iconst_ok h0 kd_W_law_358 (by decide +kernel) ?_
    exact kl_end_ok h0 hr hlk kd_W_law_359 hA9
  have hb_433 : wq_Snd p l e room_1 s m #[Value.ref b] below meth c 8 cs D kz_cl A Ag (lw_Z below #[Value.ref b] s) 433 (kt_W_law_433 N xs K) := by
    refine wq_goto_ok (tgt := 2013) h0 kd_W_law_433 (by decide) ?_
    exact hb_2013
  have hb_416 : wq_Snd p l e room_1 s m #[Value.ref b] below meth c 8 cs D kz_cl A Ag (lw_Z below #[Value.ref b] s) 416 (kt_W_law_416 N xs K) := by
    refine wq_iload_ok h0 kd_W_law_416 ?_
    refine wq_if_ne_ok (tgt := 433) h0 kd_W_law_418 (by decide) ?_ ?_
    · exact hb_433
    refine wq_aload_n_ok h0 kd_W_law_421 rfl ?_
    refine wq_iconst_ok h0 kd_W_law_422 (by decide +kernel) ?_
    refine wq_lald_ok h0 hK kd_W_law_423 ?_
    refine wq_iload_ok h0 kd_W_law_424 ?_
    refine wq_i2l_ok h0 kd_W_law_426 ?_
    refine wq_lcmp_eq_ok (tgt := 433) h0 kd_W_law_427 kd_W_law_428 (by decide) ?_ ?_
    · exact hb_433
    refine wq_iconst_ok h0 kd_W_law_431 (by decide +kernel) ?_
    exact kl_end_ok h0 hr hlk kd_W_law_432 hA9
  have hb_380 : wq_Snd p l e room_1 s m #[Value.ref b] below meth c 8 cs D kz_cl A Ag (lw_Z below #[Value.ref b] s) 380 (kt_W_law_380 N xs K) := by
    refine wq_aload_n_ok h0 kd_W_law_380 rfl ?_
    refine wq_aload_n_ok h0 kd_W_law_381 rfl ?_
    refine wq_iload_ok h0 kd_W_law_382 ?_
    refine wq_iconst_ok h0 kd_W_law_384 (by decide +kernel) ?_
    refine wq_iadd_ok h0 kd_W_law_385 ?_
    refine wq_sld_ok h0 hX hN9 hbl hbA hg kd_W_law_386 ?_
    refine wq_aload_n_ok h0 kd_W_law_387 rfl ?_
    refine wq_call_ok hA (wq_runSH ⟨h0.1, h0.2, hml, hown, hts⟩ (kv_W_classify hl) kw_G kw_534 kw_0 kw_532 kw_533 ⟨by decide +kernel, by decide +kernel, by decide +kernel⟩ rfl rfl ⟨Nat.le_of_ble_eq_true rfl, Nat.le_of_ble_eq_true rfl⟩ hK hZ hN hA kd_W_law_388) wq_x0_ok ?_
    refine wq_istore_ok h0 kd_W_law_391 (Nat.le_of_ble_eq_true rfl) ?_
    refine wq_aload_n_ok h0 kd_W_law_393 rfl ?_
    refine wq_aload_n_ok h0 kd_W_law_394 rfl ?_
    refine wq_iload_ok h0 kd_W_law_395 ?_
    refine wq_iconst_ok h0 kd_W_law_397 (by decide +kernel) ?_
    refine wq_iadd_ok h0 kd_W_law_398 ?_
    refine wq_sld_ok h0 hX hN9 hbl hbA hg kd_W_law_399 ?_
    refine wq_call_ok hA (wq_runV (ci := 9) ⟨h0.1, h0.2, hml, hown, hts⟩ (kv_M_classify hl) ⟨(wq_cB hts kw_G kw_1217 kw_10 kw_1214 ⟨by decide +kernel, by decide +kernel, by decide +kernel⟩ rfl rfl ⟨Nat.le_of_ble_eq_true rfl, Nat.le_of_ble_eq_true rfl⟩), hts _ kw_1215, hts _ kw_1216⟩ rfl rfl hK hZ hN hA kd_W_law_400) wq_x0_ok ?_
    refine wq_istore_ok h0 kd_W_law_403 (Nat.le_of_ble_eq_true rfl) ?_
    refine wq_aload_n_ok h0 kd_W_law_405 rfl ?_
    refine wq_call_ok hA (wq_runV (ci := 9) ⟨h0.1, h0.2, hml, hown, hts⟩ (kv_M_thrown hl) ⟨(wq_cB hts kw_G kw_1190 kw_10 kw_1187 ⟨by decide +kernel, by decide +kernel, by decide +kernel⟩ rfl rfl ⟨Nat.le_of_ble_eq_true rfl, Nat.le_of_ble_eq_true rfl⟩), hts _ kw_1188, hts _ kw_1189⟩ rfl rfl hK hZ hN hA kd_W_law_406) wq_x0_ok ?_
    refine wq_iload_ok h0 kd_W_law_409 ?_
    refine wq_icmp_eq_ok (tgt := 416) h0 kd_W_law_411 (by decide) ?_ ?_
    · exact hb_416
    refine wq_iconst_ok h0 kd_W_law_414 (by decide +kernel) ?_
    exact kl_end_ok h0 hr hlk kd_W_law_415 hA9
  have hb_565 : wq_Snd p l e room_1 s m #[Value.ref b] below meth c 8 cs D kz_cl A Ag (lw_Z below #[Value.ref b] s) 565 (kt_W_law_565 N xs K) := by
    refine wq_goto_ok (tgt := 2013) h0 kd_W_law_565 (by decide) ?_
    exact hb_2013
  have hb_548 : wq_Snd p l e room_1 s m #[Value.ref b] below meth c 8 cs D kz_cl A Ag (lw_Z below #[Value.ref b] s) 548 (kt_W_law_548 N xs K) := by
    refine wq_iload_ok h0 kd_W_law_548 ?_
    refine wq_if_ne_ok (tgt := 565) h0 kd_W_law_550 (by decide) ?_ ?_
    · exact hb_565
    refine wq_aload_n_ok h0 kd_W_law_553 rfl ?_
    refine wq_iconst_ok h0 kd_W_law_554 (by decide +kernel) ?_
    refine wq_lald_ok h0 hK kd_W_law_555 ?_
    refine wq_iload_ok h0 kd_W_law_556 ?_
    refine wq_i2l_ok h0 kd_W_law_558 ?_
    refine wq_lcmp_eq_ok (tgt := 565) h0 kd_W_law_559 kd_W_law_560 (by decide) ?_ ?_
    · exact hb_565
    refine wq_iconst_ok h0 kd_W_law_563 (by decide +kernel) ?_
    exact kl_end_ok h0 hr hlk kd_W_law_564 hA9
  have hb_436 : wq_Snd p l e room_1 s m #[Value.ref b] below meth c 8 cs D kz_cl A Ag (lw_Z below #[Value.ref b] s) 436 (kt_W_law_436 N xs K) := by
    refine wq_aload_n_ok h0 kd_W_law_436 rfl ?_
    refine wq_aload_n_ok h0 kd_W_law_437 rfl ?_
    refine wq_iload_ok h0 kd_W_law_438 ?_
    refine wq_iconst_ok h0 kd_W_law_440 (by decide +kernel) ?_
    refine wq_iadd_ok h0 kd_W_law_441 ?_
    refine wq_sld_ok h0 hX hN9 hbl hbA hg kd_W_law_442 ?_
    refine wq_aload_n_ok h0 kd_W_law_443 rfl ?_
    refine wq_iload_ok h0 kd_W_law_444 ?_
    refine wq_iconst_ok h0 kd_W_law_446 (by decide +kernel) ?_
    refine wq_iadd_ok h0 kd_W_law_447 ?_
    refine wq_sld_ok h0 hX hN9 hbl hbA hg kd_W_law_448 ?_
    refine wq_aload_n_ok h0 kd_W_law_449 rfl ?_
    refine wq_iload_ok h0 kd_W_law_450 ?_
    refine wq_iconst_ok h0 kd_W_law_452 (by decide +kernel) ?_
    refine wq_iadd_ok h0 kd_W_law_453 ?_
    refine wq_sld_ok h0 hX hN9 hbl hbA hg kd_W_law_454 ?_
    refine wq_aload_n_ok h0 kd_W_law_455 rfl ?_
    refine wq_iload_ok h0 kd_W_law_456 ?_
    refine wq_iconst_ok h0 kd_W_law_458 (by decide +kernel) ?_
    refine wq_iadd_ok h0 kd_W_law_459 ?_
    refine wq_sld_ok h0 hX hN9 hbl hbA hg kd_W_law_460 ?_
    refine wq_aload_n_ok h0 kd_W_law_461 rfl ?_
    refine wq_iload_ok h0 kd_W_law_462 ?_
    refine wq_iconst_ok h0 kd_W_law_464 (by decide +kernel) ?_
    refine wq_iadd_ok h0 kd_W_law_465 ?_
    refine wq_sld_ok h0 hX hN9 hbl hbA hg kd_W_law_466 ?_
    refine wq_aload_n_ok h0 kd_W_law_467 rfl ?_
    refine wq_iload_ok h0 kd_W_law_468 ?_
    refine wq_bipush_ok h0 kd_W_law_470 (by decide +kernel) ?_
    refine wq_iadd_ok h0 kd_W_law_472 ?_
    refine wq_sld_ok h0 hX hN9 hbl hbA hg kd_W_law_473 ?_
    refine wq_aload_n_ok h0 kd_W_law_474 rfl ?_
    refine wq_iload_ok h0 kd_W_law_475 ?_
    refine wq_bipush_ok h0 kd_W_law_477 (by decide +kernel) ?_
    refine wq_iadd_ok h0 kd_W_law_479 ?_
    refine wq_sld_ok h0 hX hN9 hbl hbA hg kd_W_law_480 ?_
    refine wq_aload_n_ok h0 kd_W_law_481 rfl ?_
    refine wq_call_ok hA (wq_runSH ⟨h0.1, h0.2, hml, hown, hts⟩ (kv_W_rate hl) kw_G kw_568 kw_0 kw_566 kw_567 ⟨by decide +kernel, by decide +kernel, by decide +kernel⟩ rfl rfl ⟨Nat.le_of_ble_eq_true rfl, Nat.le_of_ble_eq_true rfl⟩ hK hZ hN hA kd_W_law_482) wq_x0_ok ?_
    refine wq_istore_ok h0 kd_W_law_485 (Nat.le_of_ble_eq_true rfl) ?_
    refine wq_aload_n_ok h0 kd_W_law_487 rfl ?_
    refine wq_aload_n_ok h0 kd_W_law_488 rfl ?_
    refine wq_iload_ok h0 kd_W_law_489 ?_
    refine wq_iconst_ok h0 kd_W_law_491 (by decide +kernel) ?_
    refine wq_iadd_ok h0 kd_W_law_492 ?_
    refine wq_sld_ok h0 hX hN9 hbl hbA hg kd_W_law_493 ?_
    refine wq_aload_n_ok h0 kd_W_law_494 rfl ?_
    refine wq_iload_ok h0 kd_W_law_495 ?_
    refine wq_iconst_ok h0 kd_W_law_497 (by decide +kernel) ?_
    refine wq_iadd_ok h0 kd_W_law_498 ?_
    refine wq_sld_ok h0 hX hN9 hbl hbA hg kd_W_law_499 ?_
    refine wq_aload_n_ok h0 kd_W_law_500 rfl ?_
    refine wq_iload_ok h0 kd_W_law_501 ?_
    refine wq_iconst_ok h0 kd_W_law_503 (by decide +kernel) ?_
    refine wq_iadd_ok h0 kd_W_law_504 ?_
    refine wq_sld_ok h0 hX hN9 hbl hbA hg kd_W_law_505 ?_
    refine wq_aload_n_ok h0 kd_W_law_506 rfl ?_
    refine wq_iload_ok h0 kd_W_law_507 ?_
    refine wq_iconst_ok h0 kd_W_law_509 (by decide +kernel) ?_
    refine wq_iadd_ok h0 kd_W_law_510 ?_
    refine wq_sld_ok h0 hX hN9 hbl hbA hg kd_W_law_511 ?_
    refine wq_aload_n_ok h0 kd_W_law_512 rfl ?_
    refine wq_iload_ok h0 kd_W_law_513 ?_
    refine wq_iconst_ok h0 kd_W_law_515 (by decide +kernel) ?_
    refine wq_iadd_ok h0 kd_W_law_516 ?_
    refine wq_sld_ok h0 hX hN9 hbl hbA hg kd_W_law_517 ?_
    refine wq_aload_n_ok h0 kd_W_law_518 rfl ?_
    refine wq_iload_ok h0 kd_W_law_519 ?_
    refine wq_bipush_ok h0 kd_W_law_521 (by decide +kernel) ?_
    refine wq_iadd_ok h0 kd_W_law_523 ?_
    refine wq_sld_ok h0 hX hN9 hbl hbA hg kd_W_law_524 ?_
    refine wq_aload_n_ok h0 kd_W_law_525 rfl ?_
    refine wq_iload_ok h0 kd_W_law_526 ?_
    refine wq_bipush_ok h0 kd_W_law_528 (by decide +kernel) ?_
    refine wq_iadd_ok h0 kd_W_law_530 ?_
    refine wq_sld_ok h0 hX hN9 hbl hbA hg kd_W_law_531 ?_
    refine wq_call_ok hA (wq_runV (ci := 9) ⟨h0.1, h0.2, hml, hown, hts⟩ (kv_M_rate hl) ⟨(wq_cB hts kw_G kw_1241 kw_10 kw_1238 ⟨by decide +kernel, by decide +kernel, by decide +kernel⟩ rfl rfl ⟨Nat.le_of_ble_eq_true rfl, Nat.le_of_ble_eq_true rfl⟩), hts _ kw_1239, hts _ kw_1240⟩ rfl rfl hK hZ hN hA kd_W_law_532) wq_x0_ok ?_
    refine wq_istore_ok h0 kd_W_law_535 (Nat.le_of_ble_eq_true rfl) ?_
    refine wq_aload_n_ok h0 kd_W_law_537 rfl ?_
    refine wq_call_ok hA (wq_runV (ci := 9) ⟨h0.1, h0.2, hml, hown, hts⟩ (kv_M_thrown hl) ⟨(wq_cB hts kw_G kw_1190 kw_10 kw_1187 ⟨by decide +kernel, by decide +kernel, by decide +kernel⟩ rfl rfl ⟨Nat.le_of_ble_eq_true rfl, Nat.le_of_ble_eq_true rfl⟩), hts _ kw_1188, hts _ kw_1189⟩ rfl rfl hK hZ hN hA kd_W_law_538) wq_x0_ok ?_
    refine wq_iload_ok h0 kd_W_law_541 ?_
    refine wq_icmp_eq_ok (tgt := 548) h0 kd_W_law_543 (by decide) ?_ ?_
    · exact hb_548
    refine wq_iconst_ok h0 kd_W_law_546 (by decide +kernel) ?_
    exact kl_end_ok h0 hr hlk kd_W_law_547 hA9
  have hb_645 : wq_Snd p l e room_1 s m #[Value.ref b] below meth c 8 cs D kz_cl A Ag (lw_Z below #[Value.ref b] s) 645 (kt_W_law_645 N xs K) := by
    refine wq_goto_ok (tgt := 2013) h0 kd_W_law_645 (by decide) ?_
    exact hb_2013
  have hb_628 : wq_Snd p l e room_1 s m #[Value.ref b] below meth c 8 cs D kz_cl A Ag (lw_Z below #[Value.ref b] s) 628 (kt_W_law_628 N xs K) := by
    refine wq_iload_ok h0 kd_W_law_628 ?_
    refine wq_if_ne_ok (tgt := 645) h0 kd_W_law_630 (by decide) ?_ ?_
    · exact hb_645
    refine wq_aload_n_ok h0 kd_W_law_633 rfl ?_
    refine wq_iconst_ok h0 kd_W_law_634 (by decide +kernel) ?_
    refine wq_lald_ok h0 hK kd_W_law_635 ?_
    refine wq_iload_ok h0 kd_W_law_636 ?_
    refine wq_i2l_ok h0 kd_W_law_638 ?_
    refine wq_lcmp_eq_ok (tgt := 645) h0 kd_W_law_639 kd_W_law_640 (by decide) ?_ ?_
    · exact hb_645
    refine wq_iconst_ok h0 kd_W_law_643 (by decide +kernel) ?_
    exact kl_end_ok h0 hr hlk kd_W_law_644 hA9
  have hb_568 : wq_Snd p l e room_1 s m #[Value.ref b] below meth c 8 cs D kz_cl A Ag (lw_Z below #[Value.ref b] s) 568 (kt_W_law_568 N xs K) := by
    refine wq_aload_n_ok h0 kd_W_law_568 rfl ?_
    refine wq_aload_n_ok h0 kd_W_law_569 rfl ?_
    refine wq_iload_ok h0 kd_W_law_570 ?_
    refine wq_iconst_ok h0 kd_W_law_572 (by decide +kernel) ?_
    refine wq_iadd_ok h0 kd_W_law_573 ?_
    refine wq_sld_ok h0 hX hN9 hbl hbA hg kd_W_law_574 ?_
    refine wq_aload_n_ok h0 kd_W_law_575 rfl ?_
    refine wq_iload_ok h0 kd_W_law_576 ?_
    refine wq_iconst_ok h0 kd_W_law_578 (by decide +kernel) ?_
    refine wq_iadd_ok h0 kd_W_law_579 ?_
    refine wq_sld_ok h0 hX hN9 hbl hbA hg kd_W_law_580 ?_
    refine wq_aload_n_ok h0 kd_W_law_581 rfl ?_
    refine wq_iload_ok h0 kd_W_law_582 ?_
    refine wq_iconst_ok h0 kd_W_law_584 (by decide +kernel) ?_
    refine wq_iadd_ok h0 kd_W_law_585 ?_
    refine wq_sld_ok h0 hX hN9 hbl hbA hg kd_W_law_586 ?_
    refine wq_aload_n_ok h0 kd_W_law_587 rfl ?_
    refine wq_call_ok hA (wq_runSH ⟨h0.1, h0.2, hml, hown, hts⟩ (kv_W_rateFor hl) kw_G kw_585 kw_0 kw_583 kw_584 ⟨by decide +kernel, by decide +kernel, by decide +kernel⟩ rfl rfl ⟨Nat.le_of_ble_eq_true rfl, Nat.le_of_ble_eq_true rfl⟩ hK hZ hN hA kd_W_law_588) wq_x0_ok ?_
    refine wq_istore_ok h0 kd_W_law_591 (Nat.le_of_ble_eq_true rfl) ?_
    refine wq_aload_n_ok h0 kd_W_law_593 rfl ?_
    refine wq_aload_n_ok h0 kd_W_law_594 rfl ?_
    refine wq_iload_ok h0 kd_W_law_595 ?_
    refine wq_iconst_ok h0 kd_W_law_597 (by decide +kernel) ?_
    refine wq_iadd_ok h0 kd_W_law_598 ?_
    refine wq_sld_ok h0 hX hN9 hbl hbA hg kd_W_law_599 ?_
    refine wq_aload_n_ok h0 kd_W_law_600 rfl ?_
    refine wq_iload_ok h0 kd_W_law_601 ?_
    refine wq_iconst_ok h0 kd_W_law_603 (by decide +kernel) ?_
    refine wq_iadd_ok h0 kd_W_law_604 ?_
    refine wq_sld_ok h0 hX hN9 hbl hbA hg kd_W_law_605 ?_
    refine wq_aload_n_ok h0 kd_W_law_606 rfl ?_
    refine wq_iload_ok h0 kd_W_law_607 ?_
    refine wq_iconst_ok h0 kd_W_law_609 (by decide +kernel) ?_
    refine wq_iadd_ok h0 kd_W_law_610 ?_
    refine wq_sld_ok h0 hX hN9 hbl hbA hg kd_W_law_611 ?_
    refine wq_call_ok hA (wq_runV (ci := 9) ⟨h0.1, h0.2, hml, hown, hts⟩ (kv_M_rateFor hl) ⟨(wq_cB hts kw_G kw_1245 kw_10 kw_1242 ⟨by decide +kernel, by decide +kernel, by decide +kernel⟩ rfl rfl ⟨Nat.le_of_ble_eq_true rfl, Nat.le_of_ble_eq_true rfl⟩), hts _ kw_1243, hts _ kw_1244⟩ rfl rfl hK hZ hN hA kd_W_law_612) wq_x0_ok ?_
    refine wq_istore_ok h0 kd_W_law_615 (Nat.le_of_ble_eq_true rfl) ?_
    refine wq_aload_n_ok h0 kd_W_law_617 rfl ?_
    refine wq_call_ok hA (wq_runV (ci := 9) ⟨h0.1, h0.2, hml, hown, hts⟩ (kv_M_thrown hl) ⟨(wq_cB hts kw_G kw_1190 kw_10 kw_1187 ⟨by decide +kernel, by decide +kernel, by decide +kernel⟩ rfl rfl ⟨Nat.le_of_ble_eq_true rfl, Nat.le_of_ble_eq_true rfl⟩), hts _ kw_1188, hts _ kw_1189⟩ rfl rfl hK hZ hN hA kd_W_law_618) wq_x0_ok ?_
    refine wq_iload_ok h0 kd_W_law_621 ?_
    refine wq_icmp_eq_ok (tgt := 628) h0 kd_W_law_623 (by decide) ?_ ?_
    · exact hb_628
    refine wq_iconst_ok h0 kd_W_law_626 (by decide +kernel) ?_
    exact kl_end_ok h0 hr hlk kd_W_law_627 hA9
  have hb_763 : wq_Snd p l e room_1 s m #[Value.ref b] below meth c 8 cs D kz_cl A Ag (lw_Z below #[Value.ref b] s) 763 (kt_W_law_763 N xs K) := by
    refine wq_goto_ok (tgt := 2013) h0 kd_W_law_763 (by decide) ?_
    exact hb_2013
  have hb_746 : wq_Snd p l e room_1 s m #[Value.ref b] below meth c 8 cs D kz_cl A Ag (lw_Z below #[Value.ref b] s) 746 (kt_W_law_746 N xs K) := by
    refine wq_iload_ok h0 kd_W_law_746 ?_
    refine wq_if_ne_ok (tgt := 763) h0 kd_W_law_748 (by decide) ?_ ?_
    · exact hb_763
    refine wq_aload_n_ok h0 kd_W_law_751 rfl ?_
    refine wq_iconst_ok h0 kd_W_law_752 (by decide +kernel) ?_
    refine wq_lald_ok h0 hK kd_W_law_753 ?_
    refine wq_iload_ok h0 kd_W_law_754 ?_
    refine wq_i2l_ok h0 kd_W_law_756 ?_
    refine wq_lcmp_eq_ok (tgt := 763) h0 kd_W_law_757 kd_W_law_758 (by decide) ?_ ?_
    · exact hb_763
    refine wq_iconst_ok h0 kd_W_law_761 (by decide +kernel) ?_
    exact kl_end_ok h0 hr hlk kd_W_law_762 hA9
  have hb_648 : wq_Snd p l e room_1 s m #[Value.ref b] below meth c 8 cs D kz_cl A Ag (lw_Z below #[Value.ref b] s) 648 (kt_W_law_648 N xs K) := by
    refine wq_aload_n_ok h0 kd_W_law_648 rfl ?_
    refine wq_aload_n_ok h0 kd_W_law_649 rfl ?_
    refine wq_iload_ok h0 kd_W_law_650 ?_
    refine wq_iconst_ok h0 kd_W_law_652 (by decide +kernel) ?_
    refine wq_iadd_ok h0 kd_W_law_653 ?_
    refine wq_sld_ok h0 hX hN9 hbl hbA hg kd_W_law_654 ?_
    refine wq_aload_n_ok h0 kd_W_law_655 rfl ?_
    refine wq_iload_ok h0 kd_W_law_656 ?_
    refine wq_iconst_ok h0 kd_W_law_658 (by decide +kernel) ?_
    refine wq_iadd_ok h0 kd_W_law_659 ?_
    refine wq_sld_ok h0 hX hN9 hbl hbA hg kd_W_law_660 ?_
    refine wq_aload_n_ok h0 kd_W_law_661 rfl ?_
    refine wq_iload_ok h0 kd_W_law_662 ?_
    refine wq_iconst_ok h0 kd_W_law_664 (by decide +kernel) ?_
    refine wq_iadd_ok h0 kd_W_law_665 ?_
    refine wq_sld_ok h0 hX hN9 hbl hbA hg kd_W_law_666 ?_
    refine wq_aload_n_ok h0 kd_W_law_667 rfl ?_
    refine wq_iload_ok h0 kd_W_law_668 ?_
    refine wq_iconst_ok h0 kd_W_law_670 (by decide +kernel) ?_
    refine wq_iadd_ok h0 kd_W_law_671 ?_
    refine wq_sld_ok h0 hX hN9 hbl hbA hg kd_W_law_672 ?_
    refine wq_aload_n_ok h0 kd_W_law_673 rfl ?_
    refine wq_iload_ok h0 kd_W_law_674 ?_
    refine wq_iconst_ok h0 kd_W_law_676 (by decide +kernel) ?_
    refine wq_iadd_ok h0 kd_W_law_677 ?_
    refine wq_sld_ok h0 hX hN9 hbl hbA hg kd_W_law_678 ?_
    refine wq_aload_n_ok h0 kd_W_law_679 rfl ?_
    refine wq_iload_ok h0 kd_W_law_680 ?_
    refine wq_bipush_ok h0 kd_W_law_682 (by decide +kernel) ?_
    refine wq_iadd_ok h0 kd_W_law_684 ?_
    refine wq_sld_ok h0 hX hN9 hbl hbA hg kd_W_law_685 ?_
    refine wq_aload_n_ok h0 kd_W_law_686 rfl ?_
    refine wq_call_ok hA (wq_runSH ⟨h0.1, h0.2, hml, hown, hts⟩ (kv_W_quota hl) kw_G kw_601 kw_0 kw_599 kw_600 ⟨by decide +kernel, by decide +kernel, by decide +kernel⟩ rfl rfl ⟨Nat.le_of_ble_eq_true rfl, Nat.le_of_ble_eq_true rfl⟩ hK hZ hN hA kd_W_law_687) wq_x0_ok ?_
    refine wq_istore_ok h0 kd_W_law_690 (Nat.le_of_ble_eq_true rfl) ?_
    refine wq_aload_n_ok h0 kd_W_law_692 rfl ?_
    refine wq_aload_n_ok h0 kd_W_law_693 rfl ?_
    refine wq_iload_ok h0 kd_W_law_694 ?_
    refine wq_iconst_ok h0 kd_W_law_696 (by decide +kernel) ?_
    refine wq_iadd_ok h0 kd_W_law_697 ?_
    refine wq_sld_ok h0 hX hN9 hbl hbA hg kd_W_law_698 ?_
    refine wq_aload_n_ok h0 kd_W_law_699 rfl ?_
    refine wq_iload_ok h0 kd_W_law_700 ?_
    refine wq_iconst_ok h0 kd_W_law_702 (by decide +kernel) ?_
    refine wq_iadd_ok h0 kd_W_law_703 ?_
    refine wq_sld_ok h0 hX hN9 hbl hbA hg kd_W_law_704 ?_
    refine wq_aload_n_ok h0 kd_W_law_705 rfl ?_
    refine wq_iload_ok h0 kd_W_law_706 ?_
    refine wq_iconst_ok h0 kd_W_law_708 (by decide +kernel) ?_
    refine wq_iadd_ok h0 kd_W_law_709 ?_
    refine wq_sld_ok h0 hX hN9 hbl hbA hg kd_W_law_710 ?_
    refine wq_aload_n_ok h0 kd_W_law_711 rfl ?_
    refine wq_iload_ok h0 kd_W_law_712 ?_
    refine wq_iconst_ok h0 kd_W_law_714 (by decide +kernel) ?_
    refine wq_iadd_ok h0 kd_W_law_715 ?_
    refine wq_sld_ok h0 hX hN9 hbl hbA hg kd_W_law_716 ?_
    refine wq_aload_n_ok h0 kd_W_law_717 rfl ?_
    refine wq_iload_ok h0 kd_W_law_718 ?_
    refine wq_iconst_ok h0 kd_W_law_720 (by decide +kernel) ?_
    refine wq_iadd_ok h0 kd_W_law_721 ?_
    refine wq_sld_ok h0 hX hN9 hbl hbA hg kd_W_law_722 ?_
    refine wq_aload_n_ok h0 kd_W_law_723 rfl ?_
    refine wq_iload_ok h0 kd_W_law_724 ?_
    refine wq_bipush_ok h0 kd_W_law_726 (by decide +kernel) ?_
    refine wq_iadd_ok h0 kd_W_law_728 ?_
    refine wq_sld_ok h0 hX hN9 hbl hbA hg kd_W_law_729 ?_
    refine wq_call_ok hA (wq_runV (ci := 9) ⟨h0.1, h0.2, hml, hown, hts⟩ (kv_M_quota hl) ⟨(wq_cB hts kw_G kw_1257 kw_10 kw_1254 ⟨by decide +kernel, by decide +kernel, by decide +kernel⟩ rfl rfl ⟨Nat.le_of_ble_eq_true rfl, Nat.le_of_ble_eq_true rfl⟩), hts _ kw_1255, hts _ kw_1256⟩ rfl rfl hK hZ hN hA kd_W_law_730) wq_x0_ok ?_
    refine wq_istore_ok h0 kd_W_law_733 (Nat.le_of_ble_eq_true rfl) ?_
    refine wq_aload_n_ok h0 kd_W_law_735 rfl ?_
    refine wq_call_ok hA (wq_runV (ci := 9) ⟨h0.1, h0.2, hml, hown, hts⟩ (kv_M_thrown hl) ⟨(wq_cB hts kw_G kw_1190 kw_10 kw_1187 ⟨by decide +kernel, by decide +kernel, by decide +kernel⟩ rfl rfl ⟨Nat.le_of_ble_eq_true rfl, Nat.le_of_ble_eq_true rfl⟩), hts _ kw_1188, hts _ kw_1189⟩ rfl rfl hK hZ hN hA kd_W_law_736) wq_x0_ok ?_
    refine wq_iload_ok h0 kd_W_law_739 ?_
    refine wq_icmp_eq_ok (tgt := 746) h0 kd_W_law_741 (by decide) ?_ ?_
    · exact hb_746
    refine wq_iconst_ok h0 kd_W_law_744 (by decide +kernel) ?_
    exact kl_end_ok h0 hr hlk kd_W_law_745 hA9
  have hb_819 : wq_Snd p l e room_1 s m #[Value.ref b] below meth c 8 cs D kz_cl A Ag (lw_Z below #[Value.ref b] s) 819 (kt_W_law_819 N xs K) := by
    refine wq_goto_ok (tgt := 2013) h0 kd_W_law_819 (by decide) ?_
    exact hb_2013
  have hb_802 : wq_Snd p l e room_1 s m #[Value.ref b] below meth c 8 cs D kz_cl A Ag (lw_Z below #[Value.ref b] s) 802 (kt_W_law_802 N xs K) := by
    refine wq_iload_ok h0 kd_W_law_802 ?_
    refine wq_if_ne_ok (tgt := 819) h0 kd_W_law_804 (by decide) ?_ ?_
    · exact hb_819
    refine wq_aload_n_ok h0 kd_W_law_807 rfl ?_
    refine wq_iconst_ok h0 kd_W_law_808 (by decide +kernel) ?_
    refine wq_lald_ok h0 hK kd_W_law_809 ?_
    refine wq_iload_ok h0 kd_W_law_810 ?_
    refine wq_i2l_ok h0 kd_W_law_812 ?_
    refine wq_lcmp_eq_ok (tgt := 819) h0 kd_W_law_813 kd_W_law_814 (by decide) ?_ ?_
    · exact hb_819
    refine wq_iconst_ok h0 kd_W_law_817 (by decide +kernel) ?_
    exact kl_end_ok h0 hr hlk kd_W_law_818 hA9
  have hb_766 : wq_Snd p l e room_1 s m #[Value.ref b] below meth c 8 cs D kz_cl A Ag (lw_Z below #[Value.ref b] s) 766 (kt_W_law_766 N xs K) := by
    refine wq_aload_n_ok h0 kd_W_law_766 rfl ?_
    refine wq_aload_n_ok h0 kd_W_law_767 rfl ?_
    refine wq_iload_ok h0 kd_W_law_768 ?_
    refine wq_iconst_ok h0 kd_W_law_770 (by decide +kernel) ?_
    refine wq_iadd_ok h0 kd_W_law_771 ?_
    refine wq_sld_ok h0 hX hN9 hbl hbA hg kd_W_law_772 ?_
    refine wq_aload_n_ok h0 kd_W_law_773 rfl ?_
    refine wq_call_ok hA (wq_runSH ⟨h0.1, h0.2, hml, hown, hts⟩ (kv_W_quotaLeft hl) kw_G kw_613 kw_0 kw_611 kw_612 ⟨by decide +kernel, by decide +kernel, by decide +kernel⟩ rfl rfl ⟨Nat.le_of_ble_eq_true rfl, Nat.le_of_ble_eq_true rfl⟩ hK hZ hN hA kd_W_law_774) wq_x0_ok ?_
    refine wq_istore_ok h0 kd_W_law_777 (Nat.le_of_ble_eq_true rfl) ?_
    refine wq_aload_n_ok h0 kd_W_law_779 rfl ?_
    refine wq_aload_n_ok h0 kd_W_law_780 rfl ?_
    refine wq_iload_ok h0 kd_W_law_781 ?_
    refine wq_iconst_ok h0 kd_W_law_783 (by decide +kernel) ?_
    refine wq_iadd_ok h0 kd_W_law_784 ?_
    refine wq_sld_ok h0 hX hN9 hbl hbA hg kd_W_law_785 ?_
    refine wq_call_ok hA (wq_runV (ci := 9) ⟨h0.1, h0.2, hml, hown, hts⟩ (kv_M_quotaLeft hl) ⟨(wq_cB hts kw_G kw_1262 kw_10 kw_1259 ⟨by decide +kernel, by decide +kernel, by decide +kernel⟩ rfl rfl ⟨Nat.le_of_ble_eq_true rfl, Nat.le_of_ble_eq_true rfl⟩), hts _ kw_1260, hts _ kw_1261⟩ rfl rfl hK hZ hN hA kd_W_law_786) wq_x0_ok ?_
    refine wq_istore_ok h0 kd_W_law_789 (Nat.le_of_ble_eq_true rfl) ?_
    refine wq_aload_n_ok h0 kd_W_law_791 rfl ?_
    refine wq_call_ok hA (wq_runV (ci := 9) ⟨h0.1, h0.2, hml, hown, hts⟩ (kv_M_thrown hl) ⟨(wq_cB hts kw_G kw_1190 kw_10 kw_1187 ⟨by decide +kernel, by decide +kernel, by decide +kernel⟩ rfl rfl ⟨Nat.le_of_ble_eq_true rfl, Nat.le_of_ble_eq_true rfl⟩), hts _ kw_1188, hts _ kw_1189⟩ rfl rfl hK hZ hN hA kd_W_law_792) wq_x0_ok ?_
    refine wq_iload_ok h0 kd_W_law_795 ?_
    refine wq_icmp_eq_ok (tgt := 802) h0 kd_W_law_797 (by decide) ?_ ?_
    · exact hb_802
    refine wq_iconst_ok h0 kd_W_law_800 (by decide +kernel) ?_
    exact kl_end_ok h0 hr hlk kd_W_law_801 hA9
  have hb_911 : wq_Snd p l e room_1 s m #[Value.ref b] below meth c 8 cs D kz_cl A Ag (lw_Z below #[Value.ref b] s) 911 (kt_W_law_911 N xs K) := by
    refine wq_goto_ok (tgt := 2013) h0 kd_W_law_911 (by decide) ?_
    exact hb_2013
  have hb_894 : wq_Snd p l e room_1 s m #[Value.ref b] below meth c 8 cs D kz_cl A Ag (lw_Z below #[Value.ref b] s) 894 (kt_W_law_894 N xs K) := by
    refine wq_iload_ok h0 kd_W_law_894 ?_
    refine wq_if_ne_ok (tgt := 911) h0 kd_W_law_896 (by decide) ?_ ?_
    · exact hb_911
    refine wq_aload_n_ok h0 kd_W_law_899 rfl ?_
    refine wq_iconst_ok h0 kd_W_law_900 (by decide +kernel) ?_
    refine wq_lald_ok h0 hK kd_W_law_901 ?_
    refine wq_iload_ok h0 kd_W_law_902 ?_
    refine wq_i2l_ok h0 kd_W_law_904 ?_
    refine wq_lcmp_eq_ok (tgt := 911) h0 kd_W_law_905 kd_W_law_906 (by decide) ?_ ?_
    · exact hb_911
    refine wq_iconst_ok h0 kd_W_law_909 (by decide +kernel) ?_
    exact kl_end_ok h0 hr hlk kd_W_law_910 hA9
  have hb_822 : wq_Snd p l e room_1 s m #[Value.ref b] below meth c 8 cs D kz_cl A Ag (lw_Z below #[Value.ref b] s) 822 (kt_W_law_822 N xs K) := by
    refine wq_aload_n_ok h0 kd_W_law_822 rfl ?_
    refine wq_aload_n_ok h0 kd_W_law_823 rfl ?_
    refine wq_iload_ok h0 kd_W_law_824 ?_
    refine wq_iconst_ok h0 kd_W_law_826 (by decide +kernel) ?_
    refine wq_iadd_ok h0 kd_W_law_827 ?_
    refine wq_sld_ok h0 hX hN9 hbl hbA hg kd_W_law_828 ?_
    refine wq_aload_n_ok h0 kd_W_law_829 rfl ?_
    refine wq_iload_ok h0 kd_W_law_830 ?_
    refine wq_iconst_ok h0 kd_W_law_832 (by decide +kernel) ?_
    refine wq_iadd_ok h0 kd_W_law_833 ?_
    refine wq_sld_ok h0 hX hN9 hbl hbA hg kd_W_law_834 ?_
    refine wq_aload_n_ok h0 kd_W_law_835 rfl ?_
    refine wq_iload_ok h0 kd_W_law_836 ?_
    refine wq_iconst_ok h0 kd_W_law_838 (by decide +kernel) ?_
    refine wq_iadd_ok h0 kd_W_law_839 ?_
    refine wq_sld_ok h0 hX hN9 hbl hbA hg kd_W_law_840 ?_
    refine wq_aload_n_ok h0 kd_W_law_841 rfl ?_
    refine wq_iload_ok h0 kd_W_law_842 ?_
    refine wq_iconst_ok h0 kd_W_law_844 (by decide +kernel) ?_
    refine wq_iadd_ok h0 kd_W_law_845 ?_
    refine wq_sld_ok h0 hX hN9 hbl hbA hg kd_W_law_846 ?_
    refine wq_aload_n_ok h0 kd_W_law_847 rfl ?_
    refine wq_call_ok hA (wq_runSH ⟨h0.1, h0.2, hml, hown, hts⟩ (kv_W_part hl) kw_G kw_620 kw_0 kw_618 kw_619 ⟨by decide +kernel, by decide +kernel, by decide +kernel⟩ rfl rfl ⟨Nat.le_of_ble_eq_true rfl, Nat.le_of_ble_eq_true rfl⟩ hK hZ hN hA kd_W_law_848) wq_x0_ok ?_
    refine wq_istore_ok h0 kd_W_law_851 (Nat.le_of_ble_eq_true rfl) ?_
    refine wq_aload_n_ok h0 kd_W_law_853 rfl ?_
    refine wq_aload_n_ok h0 kd_W_law_854 rfl ?_
    refine wq_iload_ok h0 kd_W_law_855 ?_
    refine wq_iconst_ok h0 kd_W_law_857 (by decide +kernel) ?_
    refine wq_iadd_ok h0 kd_W_law_858 ?_
    refine wq_sld_ok h0 hX hN9 hbl hbA hg kd_W_law_859 ?_
    refine wq_aload_n_ok h0 kd_W_law_860 rfl ?_
    refine wq_iload_ok h0 kd_W_law_861 ?_
    refine wq_iconst_ok h0 kd_W_law_863 (by decide +kernel) ?_
    refine wq_iadd_ok h0 kd_W_law_864 ?_
    refine wq_sld_ok h0 hX hN9 hbl hbA hg kd_W_law_865 ?_
    refine wq_aload_n_ok h0 kd_W_law_866 rfl ?_
    refine wq_iload_ok h0 kd_W_law_867 ?_
    refine wq_iconst_ok h0 kd_W_law_869 (by decide +kernel) ?_
    refine wq_iadd_ok h0 kd_W_law_870 ?_
    refine wq_sld_ok h0 hX hN9 hbl hbA hg kd_W_law_871 ?_
    refine wq_aload_n_ok h0 kd_W_law_872 rfl ?_
    refine wq_iload_ok h0 kd_W_law_873 ?_
    refine wq_iconst_ok h0 kd_W_law_875 (by decide +kernel) ?_
    refine wq_iadd_ok h0 kd_W_law_876 ?_
    refine wq_sld_ok h0 hX hN9 hbl hbA hg kd_W_law_877 ?_
    refine wq_call_ok hA (wq_runV (ci := 9) ⟨h0.1, h0.2, hml, hown, hts⟩ (kv_M_part hl) ⟨(wq_cB hts kw_G kw_1266 kw_10 kw_1263 ⟨by decide +kernel, by decide +kernel, by decide +kernel⟩ rfl rfl ⟨Nat.le_of_ble_eq_true rfl, Nat.le_of_ble_eq_true rfl⟩), hts _ kw_1264, hts _ kw_1265⟩ rfl rfl hK hZ hN hA kd_W_law_878) wq_x0_ok ?_
    refine wq_istore_ok h0 kd_W_law_881 (Nat.le_of_ble_eq_true rfl) ?_
    refine wq_aload_n_ok h0 kd_W_law_883 rfl ?_
    refine wq_call_ok hA (wq_runV (ci := 9) ⟨h0.1, h0.2, hml, hown, hts⟩ (kv_M_thrown hl) ⟨(wq_cB hts kw_G kw_1190 kw_10 kw_1187 ⟨by decide +kernel, by decide +kernel, by decide +kernel⟩ rfl rfl ⟨Nat.le_of_ble_eq_true rfl, Nat.le_of_ble_eq_true rfl⟩), hts _ kw_1188, hts _ kw_1189⟩ rfl rfl hK hZ hN hA kd_W_law_884) wq_x0_ok ?_
    refine wq_iload_ok h0 kd_W_law_887 ?_
    refine wq_icmp_eq_ok (tgt := 894) h0 kd_W_law_889 (by decide) ?_ ?_
    · exact hb_894
    refine wq_iconst_ok h0 kd_W_law_892 (by decide +kernel) ?_
    exact kl_end_ok h0 hr hlk kd_W_law_893 hA9
  have hb_959 : wq_Snd p l e room_1 s m #[Value.ref b] below meth c 8 cs D kz_cl A Ag (lw_Z below #[Value.ref b] s) 959 (kt_W_law_959 N xs K) := by
    refine wq_goto_ok (tgt := 2013) h0 kd_W_law_959 (by decide) ?_
    exact hb_2013
  have hb_914 : wq_Snd p l e room_1 s m #[Value.ref b] below meth c 8 cs D kz_cl A Ag (lw_Z below #[Value.ref b] s) 914 (kt_W_law_914 N xs K) := by
    refine wq_aload_n_ok h0 kd_W_law_914 rfl ?_
    refine wq_aload_n_ok h0 kd_W_law_915 rfl ?_
    refine wq_iload_ok h0 kd_W_law_916 ?_
    refine wq_iconst_ok h0 kd_W_law_918 (by decide +kernel) ?_
    refine wq_iadd_ok h0 kd_W_law_919 ?_
    refine wq_sld_ok h0 hX hN9 hbl hbA hg kd_W_law_920 ?_
    refine wq_aload_n_ok h0 kd_W_law_921 rfl ?_
    refine wq_iload_ok h0 kd_W_law_922 ?_
    refine wq_iconst_ok h0 kd_W_law_924 (by decide +kernel) ?_
    refine wq_iadd_ok h0 kd_W_law_925 ?_
    refine wq_sld_ok h0 hX hN9 hbl hbA hg kd_W_law_926 ?_
    refine wq_call_ok hA (wq_runSH ⟨h0.1, h0.2, hml, hown, hts⟩ (kv_W_zone hl) kw_G kw_639 kw_0 kw_637 kw_638 ⟨by decide +kernel, by decide +kernel, by decide +kernel⟩ rfl rfl ⟨Nat.le_of_ble_eq_true rfl, Nat.le_of_ble_eq_true rfl⟩ hK hZ hN hA kd_W_law_927) wq_x0_ok ?_
    refine wq_istore_ok h0 kd_W_law_930 (Nat.le_of_ble_eq_true rfl) ?_
    refine wq_aload_n_ok h0 kd_W_law_932 rfl ?_
    refine wq_aload_n_ok h0 kd_W_law_933 rfl ?_
    refine wq_iload_ok h0 kd_W_law_934 ?_
    refine wq_iconst_ok h0 kd_W_law_936 (by decide +kernel) ?_
    refine wq_iadd_ok h0 kd_W_law_937 ?_
    refine wq_sld_ok h0 hX hN9 hbl hbA hg kd_W_law_938 ?_
    refine wq_aload_n_ok h0 kd_W_law_939 rfl ?_
    refine wq_iload_ok h0 kd_W_law_940 ?_
    refine wq_iconst_ok h0 kd_W_law_942 (by decide +kernel) ?_
    refine wq_iadd_ok h0 kd_W_law_943 ?_
    refine wq_sld_ok h0 hX hN9 hbl hbA hg kd_W_law_944 ?_
    refine wq_call_ok hA (wq_runV (ci := 9) ⟨h0.1, h0.2, hml, hown, hts⟩ (kv_M_zone hl) ⟨(wq_cB hts kw_G kw_1275 kw_10 kw_1272 ⟨by decide +kernel, by decide +kernel, by decide +kernel⟩ rfl rfl ⟨Nat.le_of_ble_eq_true rfl, Nat.le_of_ble_eq_true rfl⟩), hts _ kw_1273, hts _ kw_1274⟩ rfl rfl hK hZ hN hA kd_W_law_945) wq_x0_ok ?_
    refine wq_aload_n_ok h0 kd_W_law_948 rfl ?_
    refine wq_call_ok hA (wq_runV (ci := 9) ⟨h0.1, h0.2, hml, hown, hts⟩ (kv_M_thrown hl) ⟨(wq_cB hts kw_G kw_1190 kw_10 kw_1187 ⟨by decide +kernel, by decide +kernel, by decide +kernel⟩ rfl rfl ⟨Nat.le_of_ble_eq_true rfl, Nat.le_of_ble_eq_true rfl⟩), hts _ kw_1188, hts _ kw_1189⟩ rfl rfl hK hZ hN hA kd_W_law_949) wq_x0_ok ?_
    refine wq_iload_ok h0 kd_W_law_952 ?_
    refine wq_icmp_eq_ok (tgt := 959) h0 kd_W_law_954 (by decide) ?_ ?_
    · exact hb_959
    refine wq_iconst_ok h0 kd_W_law_957 (by decide +kernel) ?_
    exact kl_end_ok h0 hr hlk kd_W_law_958 hA9
  have hb_1019 : wq_Snd p l e room_1 s m #[Value.ref b] below meth c 8 cs D kz_cl A Ag (lw_Z below #[Value.ref b] s) 1019 (kt_W_law_1019 N xs K) := by
    refine wq_goto_ok (tgt := 2013) h0 kd_W_law_1019 (by decide) ?_
    exact hb_2013
  have hb_962 : wq_Snd p l e room_1 s m #[Value.ref b] below meth c 8 cs D kz_cl A Ag (lw_Z below #[Value.ref b] s) 962 (kt_W_law_962 N xs K) := by
    refine wq_aload_n_ok h0 kd_W_law_962 rfl ?_
    refine wq_aload_n_ok h0 kd_W_law_963 rfl ?_
    refine wq_iload_ok h0 kd_W_law_964 ?_
    refine wq_iconst_ok h0 kd_W_law_966 (by decide +kernel) ?_
    refine wq_iadd_ok h0 kd_W_law_967 ?_
    refine wq_sld_ok h0 hX hN9 hbl hbA hg kd_W_law_968 ?_
    refine wq_aload_n_ok h0 kd_W_law_969 rfl ?_
    refine wq_iload_ok h0 kd_W_law_970 ?_
    refine wq_iconst_ok h0 kd_W_law_972 (by decide +kernel) ?_
    refine wq_iadd_ok h0 kd_W_law_973 ?_
    refine wq_sld_ok h0 hX hN9 hbl hbA hg kd_W_law_974 ?_
    refine wq_aload_n_ok h0 kd_W_law_975 rfl ?_
    refine wq_iload_ok h0 kd_W_law_976 ?_
    refine wq_iconst_ok h0 kd_W_law_978 (by decide +kernel) ?_
    refine wq_iadd_ok h0 kd_W_law_979 ?_
    refine wq_sld_ok h0 hX hN9 hbl hbA hg kd_W_law_980 ?_
    refine wq_call_ok hA (wq_runSH ⟨h0.1, h0.2, hml, hown, hts⟩ (kv_W_rule hl) kw_G kw_646 kw_0 kw_644 kw_645 ⟨by decide +kernel, by decide +kernel, by decide +kernel⟩ rfl rfl ⟨Nat.le_of_ble_eq_true rfl, Nat.le_of_ble_eq_true rfl⟩ hK hZ hN hA kd_W_law_981) wq_x0_ok ?_
    refine wq_istore_ok h0 kd_W_law_984 (Nat.le_of_ble_eq_true rfl) ?_
    refine wq_aload_n_ok h0 kd_W_law_986 rfl ?_
    refine wq_aload_n_ok h0 kd_W_law_987 rfl ?_
    refine wq_iload_ok h0 kd_W_law_988 ?_
    refine wq_iconst_ok h0 kd_W_law_990 (by decide +kernel) ?_
    refine wq_iadd_ok h0 kd_W_law_991 ?_
    refine wq_sld_ok h0 hX hN9 hbl hbA hg kd_W_law_992 ?_
    refine wq_aload_n_ok h0 kd_W_law_993 rfl ?_
    refine wq_iload_ok h0 kd_W_law_994 ?_
    refine wq_iconst_ok h0 kd_W_law_996 (by decide +kernel) ?_
    refine wq_iadd_ok h0 kd_W_law_997 ?_
    refine wq_sld_ok h0 hX hN9 hbl hbA hg kd_W_law_998 ?_
    refine wq_aload_n_ok h0 kd_W_law_999 rfl ?_
    refine wq_iload_ok h0 kd_W_law_1000 ?_
    refine wq_iconst_ok h0 kd_W_law_1002 (by decide +kernel) ?_
    refine wq_iadd_ok h0 kd_W_law_1003 ?_
    refine wq_sld_ok h0 hX hN9 hbl hbA hg kd_W_law_1004 ?_
    refine wq_call_ok hA (wq_runV (ci := 9) ⟨h0.1, h0.2, hml, hown, hts⟩ (kv_M_rule hl) ⟨(wq_cB hts kw_G kw_1279 kw_10 kw_1276 ⟨by decide +kernel, by decide +kernel, by decide +kernel⟩ rfl rfl ⟨Nat.le_of_ble_eq_true rfl, Nat.le_of_ble_eq_true rfl⟩), hts _ kw_1277, hts _ kw_1278⟩ rfl rfl hK hZ hN hA kd_W_law_1005) wq_x0_ok ?_
    refine wq_aload_n_ok h0 kd_W_law_1008 rfl ?_
    refine wq_call_ok hA (wq_runV (ci := 9) ⟨h0.1, h0.2, hml, hown, hts⟩ (kv_M_thrown hl) ⟨(wq_cB hts kw_G kw_1190 kw_10 kw_1187 ⟨by decide +kernel, by decide +kernel, by decide +kernel⟩ rfl rfl ⟨Nat.le_of_ble_eq_true rfl, Nat.le_of_ble_eq_true rfl⟩), hts _ kw_1188, hts _ kw_1189⟩ rfl rfl hK hZ hN hA kd_W_law_1009) wq_x0_ok ?_
    refine wq_iload_ok h0 kd_W_law_1012 ?_
    refine wq_icmp_eq_ok (tgt := 1019) h0 kd_W_law_1014 (by decide) ?_ ?_
    · exact hb_1019
    refine wq_iconst_ok h0 kd_W_law_1017 (by decide +kernel) ?_
    exact kl_end_ok h0 hr hlk kd_W_law_1018 hA9
  have hb_1094 : wq_Snd p l e room_1 s m #[Value.ref b] below meth c 8 cs D kz_cl A Ag (lw_Z below #[Value.ref b] s) 1094 (kt_W_law_1094 N xs K) := by
    refine wq_goto_ok (tgt := 2013) h0 kd_W_law_1094 (by decide) ?_
    exact hb_2013
  have hb_1088 : wq_Snd p l e room_1 s m #[Value.ref b] below meth c 8 cs D kz_cl A Ag (lw_Z below #[Value.ref b] s) 1088 (kt_W_law_1088 N xs K) := by
    refine wq_lcmp_eq_ok (tgt := 1094) h0 kd_W_law_1088 kd_W_law_1089 (by decide) ?_ ?_
    · exact hb_1094
    refine wq_iconst_ok h0 kd_W_law_1092 (by decide +kernel) ?_
    exact kl_end_ok h0 hr hlk kd_W_law_1093 hA9
  have hb_1087 : wq_Snd p l e room_1 s m #[Value.ref b] below meth c 8 cs D kz_cl A Ag (lw_Z below #[Value.ref b] s) 1087 (kt_W_law_1087 N xs K) := by
    refine wq_lconst_ok h0 kd_W_law_1087 (by decide +kernel) ?_
    exact hb_1088
  have hb_1070 : wq_Snd p l e room_1 s m #[Value.ref b] below meth c 8 cs D kz_cl A Ag (lw_Z below #[Value.ref b] s) 1070 (kt_W_law_1070 N xs K) := by
    refine wq_iload_ok h0 kd_W_law_1070 ?_
    refine wq_if_ne_ok (tgt := 1094) h0 kd_W_law_1072 (by decide) ?_ ?_
    · exact hb_1094
    refine wq_aload_n_ok h0 kd_W_law_1075 rfl ?_
    refine wq_iconst_ok h0 kd_W_law_1076 (by decide +kernel) ?_
    refine wq_lald_ok h0 hK kd_W_law_1077 ?_
    refine wq_iload_ok h0 kd_W_law_1078 ?_
    refine wq_if_eq_ok (tgt := 1087) h0 kd_W_law_1080 (by decide) ?_ ?_
    · exact hb_1087
    refine wq_lconst_ok h0 kd_W_law_1083 (by decide +kernel) ?_
    refine wq_goto_ok (tgt := 1088) h0 kd_W_law_1084 (by decide) ?_
    exact hb_1088
  have hb_1022 : wq_Snd p l e room_1 s m #[Value.ref b] below meth c 8 cs D kz_cl A Ag (lw_Z below #[Value.ref b] s) 1022 (kt_W_law_1022 N xs K) := by
    refine wq_aload_n_ok h0 kd_W_law_1022 rfl ?_
    refine wq_aload_n_ok h0 kd_W_law_1023 rfl ?_
    refine wq_iload_ok h0 kd_W_law_1024 ?_
    refine wq_iconst_ok h0 kd_W_law_1026 (by decide +kernel) ?_
    refine wq_iadd_ok h0 kd_W_law_1027 ?_
    refine wq_sld_ok h0 hX hN9 hbl hbA hg kd_W_law_1028 ?_
    refine wq_aload_n_ok h0 kd_W_law_1029 rfl ?_
    refine wq_iload_ok h0 kd_W_law_1030 ?_
    refine wq_iconst_ok h0 kd_W_law_1032 (by decide +kernel) ?_
    refine wq_iadd_ok h0 kd_W_law_1033 ?_
    refine wq_sld_ok h0 hX hN9 hbl hbA hg kd_W_law_1034 ?_
    refine wq_aload_n_ok h0 kd_W_law_1035 rfl ?_
    refine wq_call_ok hA (wq_runSH ⟨h0.1, h0.2, hml, hown, hts⟩ (kv_W_madeIn hl) kw_G kw_653 kw_0 kw_651 kw_652 ⟨by decide +kernel, by decide +kernel, by decide +kernel⟩ rfl rfl ⟨Nat.le_of_ble_eq_true rfl, Nat.le_of_ble_eq_true rfl⟩ hK hZ hN hA kd_W_law_1036) wq_x0_ok ?_
    refine wq_istore_ok h0 kd_W_law_1039 (Nat.le_of_ble_eq_true rfl) ?_
    refine wq_aload_n_ok h0 kd_W_law_1041 rfl ?_
    refine wq_aload_n_ok h0 kd_W_law_1042 rfl ?_
    refine wq_iload_ok h0 kd_W_law_1043 ?_
    refine wq_iconst_ok h0 kd_W_law_1045 (by decide +kernel) ?_
    refine wq_iadd_ok h0 kd_W_law_1046 ?_
    refine wq_sld_ok h0 hX hN9 hbl hbA hg kd_W_law_1047 ?_
    refine wq_aload_n_ok h0 kd_W_law_1048 rfl ?_
    refine wq_iload_ok h0 kd_W_law_1049 ?_
    refine wq_iconst_ok h0 kd_W_law_1051 (by decide +kernel) ?_
    refine wq_iadd_ok h0 kd_W_law_1052 ?_
    refine wq_sld_ok h0 hX hN9 hbl hbA hg kd_W_law_1053 ?_
    refine wq_call_ok hA (wq_runV (ci := 9) ⟨h0.1, h0.2, hml, hown, hts⟩ (kv_M_madeIn hl) ⟨(wq_cB hts kw_G kw_1283 kw_10 kw_1280 ⟨by decide +kernel, by decide +kernel, by decide +kernel⟩ rfl rfl ⟨Nat.le_of_ble_eq_true rfl, Nat.le_of_ble_eq_true rfl⟩), hts _ kw_1281, hts _ kw_1282⟩ rfl rfl hK hZ hN hA kd_W_law_1054) wq_x0_ok ?_
    refine wq_istore_ok h0 kd_W_law_1057 (Nat.le_of_ble_eq_true rfl) ?_
    refine wq_aload_n_ok h0 kd_W_law_1059 rfl ?_
    refine wq_call_ok hA (wq_runV (ci := 9) ⟨h0.1, h0.2, hml, hown, hts⟩ (kv_M_thrown hl) ⟨(wq_cB hts kw_G kw_1190 kw_10 kw_1187 ⟨by decide +kernel, by decide +kernel, by decide +kernel⟩ rfl rfl ⟨Nat.le_of_ble_eq_true rfl, Nat.le_of_ble_eq_true rfl⟩), hts _ kw_1188, hts _ kw_1189⟩ rfl rfl hK hZ hN hA kd_W_law_1060) wq_x0_ok ?_
    refine wq_iload_ok h0 kd_W_law_1063 ?_
    refine wq_icmp_eq_ok (tgt := 1070) h0 kd_W_law_1065 (by decide) ?_ ?_
    · exact hb_1070
    refine wq_iconst_ok h0 kd_W_law_1068 (by decide +kernel) ?_
    exact kl_end_ok h0 hr hlk kd_W_law_1069 hA9
  have hb_1162 : wq_Snd p l e room_1 s m #[Value.ref b] below meth c 8 cs D kz_cl A Ag (lw_Z below #[Value.ref b] s) 1162 (kt_W_law_1162 N xs K) := by
    refine wq_goto_ok (tgt := 2013) h0 kd_W_law_1162 (by decide) ?_
    exact hb_2013
  have hb_1145 : wq_Snd p l e room_1 s m #[Value.ref b] below meth c 8 cs D kz_cl A Ag (lw_Z below #[Value.ref b] s) 1145 (kt_W_law_1145 N xs K) := by
    refine wq_iload_ok h0 kd_W_law_1145 ?_
    refine wq_if_ne_ok (tgt := 1162) h0 kd_W_law_1147 (by decide) ?_ ?_
    · exact hb_1162
    refine wq_aload_n_ok h0 kd_W_law_1150 rfl ?_
    refine wq_iconst_ok h0 kd_W_law_1151 (by decide +kernel) ?_
    refine wq_lald_ok h0 hK kd_W_law_1152 ?_
    refine wq_iload_ok h0 kd_W_law_1153 ?_
    refine wq_i2l_ok h0 kd_W_law_1155 ?_
    refine wq_lcmp_eq_ok (tgt := 1162) h0 kd_W_law_1156 kd_W_law_1157 (by decide) ?_ ?_
    · exact hb_1162
    refine wq_iconst_ok h0 kd_W_law_1160 (by decide +kernel) ?_
    exact kl_end_ok h0 hr hlk kd_W_law_1161 hA9
  have hb_1097 : wq_Snd p l e room_1 s m #[Value.ref b] below meth c 8 cs D kz_cl A Ag (lw_Z below #[Value.ref b] s) 1097 (kt_W_law_1097 N xs K) := by
    refine wq_aload_n_ok h0 kd_W_law_1097 rfl ?_
    refine wq_aload_n_ok h0 kd_W_law_1098 rfl ?_
    refine wq_iload_ok h0 kd_W_law_1099 ?_
    refine wq_iconst_ok h0 kd_W_law_1101 (by decide +kernel) ?_
    refine wq_iadd_ok h0 kd_W_law_1102 ?_
    refine wq_sld_ok h0 hX hN9 hbl hbA hg kd_W_law_1103 ?_
    refine wq_aload_n_ok h0 kd_W_law_1104 rfl ?_
    refine wq_iload_ok h0 kd_W_law_1105 ?_
    refine wq_iconst_ok h0 kd_W_law_1107 (by decide +kernel) ?_
    refine wq_iadd_ok h0 kd_W_law_1108 ?_
    refine wq_sld_ok h0 hX hN9 hbl hbA hg kd_W_law_1109 ?_
    refine wq_aload_n_ok h0 kd_W_law_1110 rfl ?_
    refine wq_call_ok hA (wq_runSH ⟨h0.1, h0.2, hml, hown, hts⟩ (kv_W_declare hl) kw_G kw_692 kw_0 kw_690 kw_691 ⟨by decide +kernel, by decide +kernel, by decide +kernel⟩ rfl rfl ⟨Nat.le_of_ble_eq_true rfl, Nat.le_of_ble_eq_true rfl⟩ hK hZ hN hA kd_W_law_1111) wq_x0_ok ?_
    refine wq_istore_ok h0 kd_W_law_1114 (Nat.le_of_ble_eq_true rfl) ?_
    refine wq_aload_n_ok h0 kd_W_law_1116 rfl ?_
    refine wq_aload_n_ok h0 kd_W_law_1117 rfl ?_
    refine wq_iload_ok h0 kd_W_law_1118 ?_
    refine wq_iconst_ok h0 kd_W_law_1120 (by decide +kernel) ?_
    refine wq_iadd_ok h0 kd_W_law_1121 ?_
    refine wq_sld_ok h0 hX hN9 hbl hbA hg kd_W_law_1122 ?_
    refine wq_aload_n_ok h0 kd_W_law_1123 rfl ?_
    refine wq_iload_ok h0 kd_W_law_1124 ?_
    refine wq_iconst_ok h0 kd_W_law_1126 (by decide +kernel) ?_
    refine wq_iadd_ok h0 kd_W_law_1127 ?_
    refine wq_sld_ok h0 hX hN9 hbl hbA hg kd_W_law_1128 ?_
    refine wq_call_ok hA (wq_runV (ci := 9) ⟨h0.1, h0.2, hml, hown, hts⟩ (kv_M_declare hl) ⟨(wq_cB hts kw_G kw_1292 kw_10 kw_1289 ⟨by decide +kernel, by decide +kernel, by decide +kernel⟩ rfl rfl ⟨Nat.le_of_ble_eq_true rfl, Nat.le_of_ble_eq_true rfl⟩), hts _ kw_1290, hts _ kw_1291⟩ rfl rfl hK hZ hN hA kd_W_law_1129) wq_x0_ok ?_
    refine wq_istore_ok h0 kd_W_law_1132 (Nat.le_of_ble_eq_true rfl) ?_
    refine wq_aload_n_ok h0 kd_W_law_1134 rfl ?_
    refine wq_call_ok hA (wq_runV (ci := 9) ⟨h0.1, h0.2, hml, hown, hts⟩ (kv_M_thrown hl) ⟨(wq_cB hts kw_G kw_1190 kw_10 kw_1187 ⟨by decide +kernel, by decide +kernel, by decide +kernel⟩ rfl rfl ⟨Nat.le_of_ble_eq_true rfl, Nat.le_of_ble_eq_true rfl⟩), hts _ kw_1188, hts _ kw_1189⟩ rfl rfl hK hZ hN hA kd_W_law_1135) wq_x0_ok ?_
    refine wq_iload_ok h0 kd_W_law_1138 ?_
    refine wq_icmp_eq_ok (tgt := 1145) h0 kd_W_law_1140 (by decide) ?_ ?_
    · exact hb_1145
    refine wq_iconst_ok h0 kd_W_law_1143 (by decide +kernel) ?_
    exact kl_end_ok h0 hr hlk kd_W_law_1144 hA9
  have hb_1310 : wq_Snd p l e room_1 s m #[Value.ref b] below meth c 8 cs D kz_cl A Ag (lw_Z below #[Value.ref b] s) 1310 (kt_W_law_1310 N xs K) := by
    refine wq_goto_ok (tgt := 2013) h0 kd_W_law_1310 (by decide) ?_
    exact hb_2013
  have hb_1293 : wq_Snd p l e room_1 s m #[Value.ref b] below meth c 8 cs D kz_cl A Ag (lw_Z below #[Value.ref b] s) 1293 (kt_W_law_1293 N xs K) := by
    refine wq_iload_ok h0 kd_W_law_1293 ?_
    refine wq_if_ne_ok (tgt := 1310) h0 kd_W_law_1295 (by decide) ?_ ?_
    · exact hb_1310
    refine wq_aload_n_ok h0 kd_W_law_1298 rfl ?_
    refine wq_iconst_ok h0 kd_W_law_1299 (by decide +kernel) ?_
    refine wq_lald_ok h0 hK kd_W_law_1300 ?_
    refine wq_iload_ok h0 kd_W_law_1301 ?_
    refine wq_i2l_ok h0 kd_W_law_1303 ?_
    refine wq_lcmp_eq_ok (tgt := 1310) h0 kd_W_law_1304 kd_W_law_1305 (by decide) ?_ ?_
    · exact hb_1310
    refine wq_iconst_ok h0 kd_W_law_1308 (by decide +kernel) ?_
    exact kl_end_ok h0 hr hlk kd_W_law_1309 hA9
  have hb_1277 : wq_Snd p l e room_1 s m #[Value.ref b] below meth c 8 cs D kz_cl A Ag (lw_Z below #[Value.ref b] s) 1277 (kt_W_law_1277 N xs K) := by
    refine wq_call_ok hA (wq_runV (ci := 9) ⟨h0.1, h0.2, hml, hown, hts⟩ (kv_M_line hl) ⟨(wq_cB hts kw_G kw_1296 kw_10 kw_1293 ⟨by decide +kernel, by decide +kernel, by decide +kernel⟩ rfl rfl ⟨Nat.le_of_ble_eq_true rfl, Nat.le_of_ble_eq_true rfl⟩), hts _ kw_1294, hts _ kw_1295⟩ rfl rfl hK hZ hN hA kd_W_law_1277) wq_x0_ok ?_
    refine wq_istore_ok h0 kd_W_law_1280 (Nat.le_of_ble_eq_true rfl) ?_
    refine wq_aload_n_ok h0 kd_W_law_1282 rfl ?_
    refine wq_call_ok hA (wq_runV (ci := 9) ⟨h0.1, h0.2, hml, hown, hts⟩ (kv_M_thrown hl) ⟨(wq_cB hts kw_G kw_1190 kw_10 kw_1187 ⟨by decide +kernel, by decide +kernel, by decide +kernel⟩ rfl rfl ⟨Nat.le_of_ble_eq_true rfl, Nat.le_of_ble_eq_true rfl⟩), hts _ kw_1188, hts _ kw_1189⟩ rfl rfl hK hZ hN hA kd_W_law_1283) wq_x0_ok ?_
    refine wq_iload_ok h0 kd_W_law_1286 ?_
    refine wq_icmp_eq_ok (tgt := 1293) h0 kd_W_law_1288 (by decide) ?_ ?_
    · exact hb_1293
    refine wq_iconst_ok h0 kd_W_law_1291 (by decide +kernel) ?_
    exact kl_end_ok h0 hr hlk kd_W_law_1292 hA9
  have hb_1276 : wq_Snd p l e room_1 s m #[Value.ref b] below meth c 8 cs D kz_cl A Ag (lw_Z below #[Value.ref b] s) 1276 (kt_W_law_1276 N xs K) := by
    refine wq_iconst_ok h0 kd_W_law_1276 (by decide +kernel) ?_
    exact hb_1277
  have hb_1218 : wq_Snd p l e room_1 s m #[Value.ref b] below meth c 8 cs D kz_cl A Ag (lw_Z below #[Value.ref b] s) 1218 (kt_W_law_1218 N xs K) := by
    refine wq_aload_n_ok h0 kd_W_law_1218 rfl ?_
    refine wq_call_ok hA (wq_runSH ⟨h0.1, h0.2, hml, hown, hts⟩ (kv_W_line hl) kw_G kw_703 kw_0 kw_701 kw_702 ⟨by decide +kernel, by decide +kernel, by decide +kernel⟩ rfl rfl ⟨Nat.le_of_ble_eq_true rfl, Nat.le_of_ble_eq_true rfl⟩ hK hZ hN hA kd_W_law_1219) wq_x0_ok ?_
    refine wq_istore_ok h0 kd_W_law_1222 (Nat.le_of_ble_eq_true rfl) ?_
    refine wq_aload_n_ok h0 kd_W_law_1224 rfl ?_
    refine wq_aload_n_ok h0 kd_W_law_1225 rfl ?_
    refine wq_iload_ok h0 kd_W_law_1226 ?_
    refine wq_iconst_ok h0 kd_W_law_1228 (by decide +kernel) ?_
    refine wq_iadd_ok h0 kd_W_law_1229 ?_
    refine wq_sld_ok h0 hX hN9 hbl hbA hg kd_W_law_1230 ?_
    refine wq_aload_n_ok h0 kd_W_law_1231 rfl ?_
    refine wq_iload_ok h0 kd_W_law_1232 ?_
    refine wq_iconst_ok h0 kd_W_law_1234 (by decide +kernel) ?_
    refine wq_iadd_ok h0 kd_W_law_1235 ?_
    refine wq_sld_ok h0 hX hN9 hbl hbA hg kd_W_law_1236 ?_
    refine wq_aload_n_ok h0 kd_W_law_1237 rfl ?_
    refine wq_iload_ok h0 kd_W_law_1238 ?_
    refine wq_iconst_ok h0 kd_W_law_1240 (by decide +kernel) ?_
    refine wq_iadd_ok h0 kd_W_law_1241 ?_
    refine wq_sld_ok h0 hX hN9 hbl hbA hg kd_W_law_1242 ?_
    refine wq_aload_n_ok h0 kd_W_law_1243 rfl ?_
    refine wq_iload_ok h0 kd_W_law_1244 ?_
    refine wq_iconst_ok h0 kd_W_law_1246 (by decide +kernel) ?_
    refine wq_iadd_ok h0 kd_W_law_1247 ?_
    refine wq_sld_ok h0 hX hN9 hbl hbA hg kd_W_law_1248 ?_
    refine wq_aload_n_ok h0 kd_W_law_1249 rfl ?_
    refine wq_iload_ok h0 kd_W_law_1250 ?_
    refine wq_iconst_ok h0 kd_W_law_1252 (by decide +kernel) ?_
    refine wq_iadd_ok h0 kd_W_law_1253 ?_
    refine wq_sld_ok h0 hX hN9 hbl hbA hg kd_W_law_1254 ?_
    refine wq_aload_n_ok h0 kd_W_law_1255 rfl ?_
    refine wq_iload_ok h0 kd_W_law_1256 ?_
    refine wq_bipush_ok h0 kd_W_law_1258 (by decide +kernel) ?_
    refine wq_iadd_ok h0 kd_W_law_1260 ?_
    refine wq_sld_ok h0 hX hN9 hbl hbA hg kd_W_law_1261 ?_
    refine wq_aload_n_ok h0 kd_W_law_1262 rfl ?_
    refine wq_iload_ok h0 kd_W_law_1263 ?_
    refine wq_bipush_ok h0 kd_W_law_1265 (by decide +kernel) ?_
    refine wq_iadd_ok h0 kd_W_law_1267 ?_
    refine wq_sld_ok h0 hX hN9 hbl hbA hg kd_W_law_1268 ?_
    refine wq_if_eq_ok (tgt := 1276) h0 kd_W_law_1269 (by decide) ?_ ?_
    · exact hb_1276
    refine wq_iconst_ok h0 kd_W_law_1272 (by decide +kernel) ?_
    refine wq_goto_ok (tgt := 1277) h0 kd_W_law_1273 (by decide) ?_
    exact hb_1277
  have hb_1217 : wq_Snd p l e room_1 s m #[Value.ref b] below meth c 8 cs D kz_cl A Ag (lw_Z below #[Value.ref b] s) 1217 (kt_W_law_1217 N xs K) := by
    refine wq_iconst_ok h0 kd_W_law_1217 (by decide +kernel) ?_
    exact hb_1218
  have hb_1165 : wq_Snd p l e room_1 s m #[Value.ref b] below meth c 8 cs D kz_cl A Ag (lw_Z below #[Value.ref b] s) 1165 (kt_W_law_1165 N xs K) := by
    refine wq_aload_n_ok h0 kd_W_law_1165 rfl ?_
    refine wq_aload_n_ok h0 kd_W_law_1166 rfl ?_
    refine wq_iload_ok h0 kd_W_law_1167 ?_
    refine wq_iconst_ok h0 kd_W_law_1169 (by decide +kernel) ?_
    refine wq_iadd_ok h0 kd_W_law_1170 ?_
    refine wq_sld_ok h0 hX hN9 hbl hbA hg kd_W_law_1171 ?_
    refine wq_aload_n_ok h0 kd_W_law_1172 rfl ?_
    refine wq_iload_ok h0 kd_W_law_1173 ?_
    refine wq_iconst_ok h0 kd_W_law_1175 (by decide +kernel) ?_
    refine wq_iadd_ok h0 kd_W_law_1176 ?_
    refine wq_sld_ok h0 hX hN9 hbl hbA hg kd_W_law_1177 ?_
    refine wq_aload_n_ok h0 kd_W_law_1178 rfl ?_
    refine wq_iload_ok h0 kd_W_law_1179 ?_
    refine wq_iconst_ok h0 kd_W_law_1181 (by decide +kernel) ?_
    refine wq_iadd_ok h0 kd_W_law_1182 ?_
    refine wq_sld_ok h0 hX hN9 hbl hbA hg kd_W_law_1183 ?_
    refine wq_aload_n_ok h0 kd_W_law_1184 rfl ?_
    refine wq_iload_ok h0 kd_W_law_1185 ?_
    refine wq_iconst_ok h0 kd_W_law_1187 (by decide +kernel) ?_
    refine wq_iadd_ok h0 kd_W_law_1188 ?_
    refine wq_sld_ok h0 hX hN9 hbl hbA hg kd_W_law_1189 ?_
    refine wq_aload_n_ok h0 kd_W_law_1190 rfl ?_
    refine wq_iload_ok h0 kd_W_law_1191 ?_
    refine wq_iconst_ok h0 kd_W_law_1193 (by decide +kernel) ?_
    refine wq_iadd_ok h0 kd_W_law_1194 ?_
    refine wq_sld_ok h0 hX hN9 hbl hbA hg kd_W_law_1195 ?_
    refine wq_aload_n_ok h0 kd_W_law_1196 rfl ?_
    refine wq_iload_ok h0 kd_W_law_1197 ?_
    refine wq_bipush_ok h0 kd_W_law_1199 (by decide +kernel) ?_
    refine wq_iadd_ok h0 kd_W_law_1201 ?_
    refine wq_sld_ok h0 hX hN9 hbl hbA hg kd_W_law_1202 ?_
    refine wq_aload_n_ok h0 kd_W_law_1203 rfl ?_
    refine wq_iload_ok h0 kd_W_law_1204 ?_
    refine wq_bipush_ok h0 kd_W_law_1206 (by decide +kernel) ?_
    refine wq_iadd_ok h0 kd_W_law_1208 ?_
    refine wq_sld_ok h0 hX hN9 hbl hbA hg kd_W_law_1209 ?_
    refine wq_if_eq_ok (tgt := 1217) h0 kd_W_law_1210 (by decide) ?_ ?_
    · exact hb_1217
    refine wq_iconst_ok h0 kd_W_law_1213 (by decide +kernel) ?_
    refine wq_goto_ok (tgt := 1218) h0 kd_W_law_1214 (by decide) ?_
    exact hb_1218
  have hb_1370 : wq_Snd p l e room_1 s m #[Value.ref b] below meth c 8 cs D kz_cl A Ag (lw_Z below #[Value.ref b] s) 1370 (kt_W_law_1370 N xs K) := by
    refine wq_goto_ok (tgt := 2013) h0 kd_W_law_1370 (by decide) ?_
    exact hb_2013
  have hb_1313 : wq_Snd p l e room_1 s m #[Value.ref b] below meth c 8 cs D kz_cl A Ag (lw_Z below #[Value.ref b] s) 1313 (kt_W_law_1313 N xs K) := by
    refine wq_aload_n_ok h0 kd_W_law_1313 rfl ?_
    refine wq_aload_n_ok h0 kd_W_law_1314 rfl ?_
    refine wq_iload_ok h0 kd_W_law_1315 ?_
    refine wq_iconst_ok h0 kd_W_law_1317 (by decide +kernel) ?_
    refine wq_iadd_ok h0 kd_W_law_1318 ?_
    refine wq_sld_ok h0 hX hN9 hbl hbA hg kd_W_law_1319 ?_
    refine wq_aload_n_ok h0 kd_W_law_1320 rfl ?_
    refine wq_iload_ok h0 kd_W_law_1321 ?_
    refine wq_iconst_ok h0 kd_W_law_1323 (by decide +kernel) ?_
    refine wq_iadd_ok h0 kd_W_law_1324 ?_
    refine wq_sld_ok h0 hX hN9 hbl hbA hg kd_W_law_1325 ?_
    refine wq_aload_n_ok h0 kd_W_law_1326 rfl ?_
    refine wq_iload_ok h0 kd_W_law_1327 ?_
    refine wq_iconst_ok h0 kd_W_law_1329 (by decide +kernel) ?_
    refine wq_iadd_ok h0 kd_W_law_1330 ?_
    refine wq_sld_ok h0 hX hN9 hbl hbA hg kd_W_law_1331 ?_
    refine wq_call_ok hA (wq_runSH ⟨h0.1, h0.2, hml, hown, hts⟩ (kv_W_charge hl) kw_G kw_727 kw_0 kw_725 kw_726 ⟨by decide +kernel, by decide +kernel, by decide +kernel⟩ rfl rfl ⟨Nat.le_of_ble_eq_true rfl, Nat.le_of_ble_eq_true rfl⟩ hK hZ hN hA kd_W_law_1332) wq_x0_ok ?_
    refine wq_istore_ok h0 kd_W_law_1335 (Nat.le_of_ble_eq_true rfl) ?_
    refine wq_aload_n_ok h0 kd_W_law_1337 rfl ?_
    refine wq_aload_n_ok h0 kd_W_law_1338 rfl ?_
    refine wq_iload_ok h0 kd_W_law_1339 ?_
    refine wq_iconst_ok h0 kd_W_law_1341 (by decide +kernel) ?_
    refine wq_iadd_ok h0 kd_W_law_1342 ?_
    refine wq_sld_ok h0 hX hN9 hbl hbA hg kd_W_law_1343 ?_
    refine wq_aload_n_ok h0 kd_W_law_1344 rfl ?_
    refine wq_iload_ok h0 kd_W_law_1345 ?_
    refine wq_iconst_ok h0 kd_W_law_1347 (by decide +kernel) ?_
    refine wq_iadd_ok h0 kd_W_law_1348 ?_
    refine wq_sld_ok h0 hX hN9 hbl hbA hg kd_W_law_1349 ?_
    refine wq_aload_n_ok h0 kd_W_law_1350 rfl ?_
    refine wq_iload_ok h0 kd_W_law_1351 ?_
    refine wq_iconst_ok h0 kd_W_law_1353 (by decide +kernel) ?_
    refine wq_iadd_ok h0 kd_W_law_1354 ?_
    refine wq_sld_ok h0 hX hN9 hbl hbA hg kd_W_law_1355 ?_
    refine wq_call_ok hA (wq_runV (ci := 9) ⟨h0.1, h0.2, hml, hown, hts⟩ (kv_M_charge hl) ⟨(wq_cB hts kw_G kw_1308 kw_10 kw_1305 ⟨by decide +kernel, by decide +kernel, by decide +kernel⟩ rfl rfl ⟨Nat.le_of_ble_eq_true rfl, Nat.le_of_ble_eq_true rfl⟩), hts _ kw_1306, hts _ kw_1307⟩ rfl rfl hK hZ hN hA kd_W_law_1356) wq_x0_ok ?_
    refine wq_aload_n_ok h0 kd_W_law_1359 rfl ?_
    refine wq_call_ok hA (wq_runV (ci := 9) ⟨h0.1, h0.2, hml, hown, hts⟩ (kv_M_thrown hl) ⟨(wq_cB hts kw_G kw_1190 kw_10 kw_1187 ⟨by decide +kernel, by decide +kernel, by decide +kernel⟩ rfl rfl ⟨Nat.le_of_ble_eq_true rfl, Nat.le_of_ble_eq_true rfl⟩), hts _ kw_1188, hts _ kw_1189⟩ rfl rfl hK hZ hN hA kd_W_law_1360) wq_x0_ok ?_
    refine wq_iload_ok h0 kd_W_law_1363 ?_
    refine wq_icmp_eq_ok (tgt := 1370) h0 kd_W_law_1365 (by decide) ?_ ?_
    · exact hb_1370
    refine wq_iconst_ok h0 kd_W_law_1368 (by decide +kernel) ?_
    exact kl_end_ok h0 hr hlk kd_W_law_1369 hA9
  have hb_1449 : wq_Snd p l e room_1 s m #[Value.ref b] below meth c 8 cs D kz_cl A Ag (lw_Z below #[Value.ref b] s) 1449 (kt_W_law_1449 N xs K) := by
    refine wq_goto_ok (tgt := 2013) h0 kd_W_law_1449 (by decide) ?_
    exact hb_2013
  have hb_1433 : wq_Snd p l e room_1 s m #[Value.ref b] below meth c 8 cs D kz_cl A Ag (lw_Z below #[Value.ref b] s) 1433 (kt_W_law_1433 N xs K) := by
    refine wq_iload_ok h0 kd_W_law_1433 ?_
    refine wq_if_ne_ok (tgt := 1449) h0 kd_W_law_1435 (by decide) ?_ ?_
    · exact hb_1449
    refine wq_aload_n_ok h0 kd_W_law_1438 rfl ?_
    refine wq_iconst_ok h0 kd_W_law_1439 (by decide +kernel) ?_
    refine wq_lald_ok h0 hK kd_W_law_1440 ?_
    refine wq_lload_ok h0 kd_W_law_1441 ?_
    refine wq_lcmp_eq_ok (tgt := 1449) h0 kd_W_law_1443 kd_W_law_1444 (by decide) ?_ ?_
    · exact hb_1449
    refine wq_iconst_ok h0 kd_W_law_1447 (by decide +kernel) ?_
    exact kl_end_ok h0 hr hlk kd_W_law_1448 hA9
  have hb_1373 : wq_Snd p l e room_1 s m #[Value.ref b] below meth c 8 cs D kz_cl A Ag (lw_Z below #[Value.ref b] s) 1373 (kt_W_law_1373 N xs K) := by
    refine wq_aload_n_ok h0 kd_W_law_1373 rfl ?_
    refine wq_aload_n_ok h0 kd_W_law_1374 rfl ?_
    refine wq_iload_ok h0 kd_W_law_1375 ?_
    refine wq_iconst_ok h0 kd_W_law_1377 (by decide +kernel) ?_
    refine wq_iadd_ok h0 kd_W_law_1378 ?_
    refine wq_sld_ok h0 hX hN9 hbl hbA hg kd_W_law_1379 ?_
    refine wq_aload_n_ok h0 kd_W_law_1380 rfl ?_
    refine wq_iload_ok h0 kd_W_law_1381 ?_
    refine wq_iconst_ok h0 kd_W_law_1383 (by decide +kernel) ?_
    refine wq_iadd_ok h0 kd_W_law_1384 ?_
    refine wq_sld_ok h0 hX hN9 hbl hbA hg kd_W_law_1385 ?_
    refine wq_aload_n_ok h0 kd_W_law_1386 rfl ?_
    refine wq_iload_ok h0 kd_W_law_1387 ?_
    refine wq_iconst_ok h0 kd_W_law_1389 (by decide +kernel) ?_
    refine wq_iadd_ok h0 kd_W_law_1390 ?_
    refine wq_sld_ok h0 hX hN9 hbl hbA hg kd_W_law_1391 ?_
    refine wq_aload_n_ok h0 kd_W_law_1392 rfl ?_
    refine wq_call_ok hA (wq_runSH ⟨h0.1, h0.2, hml, hown, hts⟩ (kv_W_lineOf hl) kw_G kw_735 kw_0 kw_733 kw_734 ⟨by decide +kernel, by decide +kernel, by decide +kernel⟩ rfl rfl ⟨Nat.le_of_ble_eq_true rfl, Nat.le_of_ble_eq_true rfl⟩ hK hZ hN hA kd_W_law_1393) wq_x0_ok ?_
    refine wq_istore_ok h0 kd_W_law_1396 (Nat.le_of_ble_eq_true rfl) ?_
    refine wq_aload_n_ok h0 kd_W_law_1398 rfl ?_
    refine wq_aload_n_ok h0 kd_W_law_1399 rfl ?_
    refine wq_iload_ok h0 kd_W_law_1400 ?_
    refine wq_iconst_ok h0 kd_W_law_1402 (by decide +kernel) ?_
    refine wq_iadd_ok h0 kd_W_law_1403 ?_
    refine wq_sld_ok h0 hX hN9 hbl hbA hg kd_W_law_1404 ?_
    refine wq_aload_n_ok h0 kd_W_law_1405 rfl ?_
    refine wq_iload_ok h0 kd_W_law_1406 ?_
    refine wq_iconst_ok h0 kd_W_law_1408 (by decide +kernel) ?_
    refine wq_iadd_ok h0 kd_W_law_1409 ?_
    refine wq_sld_ok h0 hX hN9 hbl hbA hg kd_W_law_1410 ?_
    refine wq_aload_n_ok h0 kd_W_law_1411 rfl ?_
    refine wq_iload_ok h0 kd_W_law_1412 ?_
    refine wq_iconst_ok h0 kd_W_law_1414 (by decide +kernel) ?_
    refine wq_iadd_ok h0 kd_W_law_1415 ?_
    refine wq_sld_ok h0 hX hN9 hbl hbA hg kd_W_law_1416 ?_
    refine wq_call_ok hA (wq_runV (ci := 9) ⟨h0.1, h0.2, hml, hown, hts⟩ (kv_M_lineOf hl) ⟨(wq_cB hts kw_G kw_1313 kw_10 kw_1310 ⟨by decide +kernel, by decide +kernel, by decide +kernel⟩ rfl rfl ⟨Nat.le_of_ble_eq_true rfl, Nat.le_of_ble_eq_true rfl⟩), hts _ kw_1311, hts _ kw_1312⟩ rfl rfl hK hZ hN hA kd_W_law_1417) wq_x0_ok ?_
    refine wq_lstore_ok h0 kd_W_law_1420 (Nat.le_of_ble_eq_true rfl) ?_
    refine wq_aload_n_ok h0 kd_W_law_1422 rfl ?_
    refine wq_call_ok hA (wq_runV (ci := 9) ⟨h0.1, h0.2, hml, hown, hts⟩ (kv_M_thrown hl) ⟨(wq_cB hts kw_G kw_1190 kw_10 kw_1187 ⟨by decide +kernel, by decide +kernel, by decide +kernel⟩ rfl rfl ⟨Nat.le_of_ble_eq_true rfl, Nat.le_of_ble_eq_true rfl⟩), hts _ kw_1188, hts _ kw_1189⟩ rfl rfl hK hZ hN hA kd_W_law_1423) wq_x0_ok ?_
    refine wq_iload_ok h0 kd_W_law_1426 ?_
    refine wq_icmp_eq_ok (tgt := 1433) h0 kd_W_law_1428 (by decide) ?_ ?_
    · exact hb_1433
    refine wq_iconst_ok h0 kd_W_law_1431 (by decide +kernel) ?_
    exact kl_end_ok h0 hr hlk kd_W_law_1432 hA9
  have hb_1504 : wq_Snd p l e room_1 s m #[Value.ref b] below meth c 8 cs D kz_cl A Ag (lw_Z below #[Value.ref b] s) 1504 (kt_W_law_1504 N xs K) := by
    refine wq_goto_ok (tgt := 2013) h0 kd_W_law_1504 (by decide) ?_
    exact hb_2013
  have hb_1488 : wq_Snd p l e room_1 s m #[Value.ref b] below meth c 8 cs D kz_cl A Ag (lw_Z below #[Value.ref b] s) 1488 (kt_W_law_1488 N xs K) := by
    refine wq_iload_ok h0 kd_W_law_1488 ?_
    refine wq_if_ne_ok (tgt := 1504) h0 kd_W_law_1490 (by decide) ?_ ?_
    · exact hb_1504
    refine wq_aload_n_ok h0 kd_W_law_1493 rfl ?_
    refine wq_iconst_ok h0 kd_W_law_1494 (by decide +kernel) ?_
    refine wq_lald_ok h0 hK kd_W_law_1495 ?_
    refine wq_lload_ok h0 kd_W_law_1496 ?_
    refine wq_lcmp_eq_ok (tgt := 1504) h0 kd_W_law_1498 kd_W_law_1499 (by decide) ?_ ?_
    · exact hb_1504
    refine wq_iconst_ok h0 kd_W_law_1502 (by decide +kernel) ?_
    exact kl_end_ok h0 hr hlk kd_W_law_1503 hA9
  have hb_1452 : wq_Snd p l e room_1 s m #[Value.ref b] below meth c 8 cs D kz_cl A Ag (lw_Z below #[Value.ref b] s) 1452 (kt_W_law_1452 N xs K) := by
    refine wq_aload_n_ok h0 kd_W_law_1452 rfl ?_
    refine wq_aload_n_ok h0 kd_W_law_1453 rfl ?_
    refine wq_iload_ok h0 kd_W_law_1454 ?_
    refine wq_iconst_ok h0 kd_W_law_1456 (by decide +kernel) ?_
    refine wq_iadd_ok h0 kd_W_law_1457 ?_
    refine wq_sld_ok h0 hX hN9 hbl hbA hg kd_W_law_1458 ?_
    refine wq_aload_n_ok h0 kd_W_law_1459 rfl ?_
    refine wq_call_ok hA (wq_runSH ⟨h0.1, h0.2, hml, hown, hts⟩ (kv_W_accept hl) kw_G kw_842 kw_0 kw_840 kw_841 ⟨by decide +kernel, by decide +kernel, by decide +kernel⟩ rfl rfl ⟨Nat.le_of_ble_eq_true rfl, Nat.le_of_ble_eq_true rfl⟩ hK hZ hN hA kd_W_law_1460) wq_x0_ok ?_
    refine wq_istore_ok h0 kd_W_law_1463 (Nat.le_of_ble_eq_true rfl) ?_
    refine wq_aload_n_ok h0 kd_W_law_1465 rfl ?_
    refine wq_aload_n_ok h0 kd_W_law_1466 rfl ?_
    refine wq_iload_ok h0 kd_W_law_1467 ?_
    refine wq_iconst_ok h0 kd_W_law_1469 (by decide +kernel) ?_
    refine wq_iadd_ok h0 kd_W_law_1470 ?_
    refine wq_sld_ok h0 hX hN9 hbl hbA hg kd_W_law_1471 ?_
    refine wq_call_ok hA (wq_runV (ci := 9) ⟨h0.1, h0.2, hml, hown, hts⟩ (kv_M_accept hl) ⟨(wq_cB hts kw_G kw_1356 kw_10 kw_1353 ⟨by decide +kernel, by decide +kernel, by decide +kernel⟩ rfl rfl ⟨Nat.le_of_ble_eq_true rfl, Nat.le_of_ble_eq_true rfl⟩), hts _ kw_1354, hts _ kw_1355⟩ rfl rfl hK hZ hN hA kd_W_law_1472) wq_x0_ok ?_
    refine wq_lstore_ok h0 kd_W_law_1475 (Nat.le_of_ble_eq_true rfl) ?_
    refine wq_aload_n_ok h0 kd_W_law_1477 rfl ?_
    refine wq_call_ok hA (wq_runV (ci := 9) ⟨h0.1, h0.2, hml, hown, hts⟩ (kv_M_thrown hl) ⟨(wq_cB hts kw_G kw_1190 kw_10 kw_1187 ⟨by decide +kernel, by decide +kernel, by decide +kernel⟩ rfl rfl ⟨Nat.le_of_ble_eq_true rfl, Nat.le_of_ble_eq_true rfl⟩), hts _ kw_1188, hts _ kw_1189⟩ rfl rfl hK hZ hN hA kd_W_law_1478) wq_x0_ok ?_
    refine wq_iload_ok h0 kd_W_law_1481 ?_
    refine wq_icmp_eq_ok (tgt := 1488) h0 kd_W_law_1483 (by decide) ?_ ?_
    · exact hb_1488
    refine wq_iconst_ok h0 kd_W_law_1486 (by decide +kernel) ?_
    exact kl_end_ok h0 hr hlk kd_W_law_1487 hA9
  have hb_1595 : wq_Snd p l e room_1 s m #[Value.ref b] below meth c 8 cs D kz_cl A Ag (lw_Z below #[Value.ref b] s) 1595 (kt_W_law_1595 N xs K) := by
    refine wq_goto_ok (tgt := 2013) h0 kd_W_law_1595 (by decide) ?_
    exact hb_2013
  have hb_1579 : wq_Snd p l e room_1 s m #[Value.ref b] below meth c 8 cs D kz_cl A Ag (lw_Z below #[Value.ref b] s) 1579 (kt_W_law_1579 N xs K) := by
    refine wq_iload_ok h0 kd_W_law_1579 ?_
    refine wq_if_ne_ok (tgt := 1595) h0 kd_W_law_1581 (by decide) ?_ ?_
    · exact hb_1595
    refine wq_aload_n_ok h0 kd_W_law_1584 rfl ?_
    refine wq_iconst_ok h0 kd_W_law_1585 (by decide +kernel) ?_
    refine wq_lald_ok h0 hK kd_W_law_1586 ?_
    refine wq_lload_ok h0 kd_W_law_1587 ?_
    refine wq_lcmp_eq_ok (tgt := 1595) h0 kd_W_law_1589 kd_W_law_1590 (by decide) ?_ ?_
    · exact hb_1595
    refine wq_iconst_ok h0 kd_W_law_1593 (by decide +kernel) ?_
    exact kl_end_ok h0 hr hlk kd_W_law_1594 hA9
  have hb_1507 : wq_Snd p l e room_1 s m #[Value.ref b] below meth c 8 cs D kz_cl A Ag (lw_Z below #[Value.ref b] s) 1507 (kt_W_law_1507 N xs K) := by
    refine wq_aload_n_ok h0 kd_W_law_1507 rfl ?_
    refine wq_aload_n_ok h0 kd_W_law_1508 rfl ?_
    refine wq_iload_ok h0 kd_W_law_1509 ?_
    refine wq_iconst_ok h0 kd_W_law_1511 (by decide +kernel) ?_
    refine wq_iadd_ok h0 kd_W_law_1512 ?_
    refine wq_sld_ok h0 hX hN9 hbl hbA hg kd_W_law_1513 ?_
    refine wq_aload_n_ok h0 kd_W_law_1514 rfl ?_
    refine wq_iload_ok h0 kd_W_law_1515 ?_
    refine wq_iconst_ok h0 kd_W_law_1517 (by decide +kernel) ?_
    refine wq_iadd_ok h0 kd_W_law_1518 ?_
    refine wq_sld_ok h0 hX hN9 hbl hbA hg kd_W_law_1519 ?_
    refine wq_aload_n_ok h0 kd_W_law_1520 rfl ?_
    refine wq_iload_ok h0 kd_W_law_1521 ?_
    refine wq_iconst_ok h0 kd_W_law_1523 (by decide +kernel) ?_
    refine wq_iadd_ok h0 kd_W_law_1524 ?_
    refine wq_sld_ok h0 hX hN9 hbl hbA hg kd_W_law_1525 ?_
    refine wq_aload_n_ok h0 kd_W_law_1526 rfl ?_
    refine wq_iload_ok h0 kd_W_law_1527 ?_
    refine wq_iconst_ok h0 kd_W_law_1529 (by decide +kernel) ?_
    refine wq_iadd_ok h0 kd_W_law_1530 ?_
    refine wq_sld_ok h0 hX hN9 hbl hbA hg kd_W_law_1531 ?_
    refine wq_aload_n_ok h0 kd_W_law_1532 rfl ?_
    refine wq_call_ok hA (wq_runSH ⟨h0.1, h0.2, hml, hown, hts⟩ (kv_W_amend hl) kw_G kw_892 kw_0 kw_890 kw_891 ⟨by decide +kernel, by decide +kernel, by decide +kernel⟩ rfl rfl ⟨Nat.le_of_ble_eq_true rfl, Nat.le_of_ble_eq_true rfl⟩ hK hZ hN hA kd_W_law_1533) wq_x0_ok ?_
    refine wq_istore_ok h0 kd_W_law_1536 (Nat.le_of_ble_eq_true rfl) ?_
    refine wq_aload_n_ok h0 kd_W_law_1538 rfl ?_
    refine wq_aload_n_ok h0 kd_W_law_1539 rfl ?_
    refine wq_iload_ok h0 kd_W_law_1540 ?_
    refine wq_iconst_ok h0 kd_W_law_1542 (by decide +kernel) ?_
    refine wq_iadd_ok h0 kd_W_law_1543 ?_
    refine wq_sld_ok h0 hX hN9 hbl hbA hg kd_W_law_1544 ?_
    refine wq_aload_n_ok h0 kd_W_law_1545 rfl ?_
    refine wq_iload_ok h0 kd_W_law_1546 ?_
    refine wq_iconst_ok h0 kd_W_law_1548 (by decide +kernel) ?_
    refine wq_iadd_ok h0 kd_W_law_1549 ?_
    refine wq_sld_ok h0 hX hN9 hbl hbA hg kd_W_law_1550 ?_
    refine wq_aload_n_ok h0 kd_W_law_1551 rfl ?_
    refine wq_iload_ok h0 kd_W_law_1552 ?_
    refine wq_iconst_ok h0 kd_W_law_1554 (by decide +kernel) ?_
    refine wq_iadd_ok h0 kd_W_law_1555 ?_
    refine wq_sld_ok h0 hX hN9 hbl hbA hg kd_W_law_1556 ?_
    refine wq_aload_n_ok h0 kd_W_law_1557 rfl ?_
    refine wq_iload_ok h0 kd_W_law_1558 ?_
    refine wq_iconst_ok h0 kd_W_law_1560 (by decide +kernel) ?_
    refine wq_iadd_ok h0 kd_W_law_1561 ?_
    refine wq_sld_ok h0 hX hN9 hbl hbA hg kd_W_law_1562 ?_
    refine wq_call_ok hA (wq_runV (ci := 9) ⟨h0.1, h0.2, hml, hown, hts⟩ (kv_M_amend hl) ⟨(wq_cB hts kw_G kw_1372 kw_10 kw_1369 ⟨by decide +kernel, by decide +kernel, by decide +kernel⟩ rfl rfl ⟨Nat.le_of_ble_eq_true rfl, Nat.le_of_ble_eq_true rfl⟩), hts _ kw_1370, hts _ kw_1371⟩ rfl rfl hK hZ hN hA kd_W_law_1563) wq_x0_ok ?_
    refine wq_lstore_ok h0 kd_W_law_1566 (Nat.le_of_ble_eq_true rfl) ?_
    refine wq_aload_n_ok h0 kd_W_law_1568 rfl ?_
    refine wq_call_ok hA (wq_runV (ci := 9) ⟨h0.1, h0.2, hml, hown, hts⟩ (kv_M_thrown hl) ⟨(wq_cB hts kw_G kw_1190 kw_10 kw_1187 ⟨by decide +kernel, by decide +kernel, by decide +kernel⟩ rfl rfl ⟨Nat.le_of_ble_eq_true rfl, Nat.le_of_ble_eq_true rfl⟩), hts _ kw_1188, hts _ kw_1189⟩ rfl rfl hK hZ hN hA kd_W_law_1569) wq_x0_ok ?_
    refine wq_iload_ok h0 kd_W_law_1572 ?_
    refine wq_icmp_eq_ok (tgt := 1579) h0 kd_W_law_1574 (by decide) ?_ ?_
    · exact hb_1579
    refine wq_iconst_ok h0 kd_W_law_1577 (by decide +kernel) ?_
    exact kl_end_ok h0 hr hlk kd_W_law_1578 hA9
  have hb_1662 : wq_Snd p l e room_1 s m #[Value.ref b] below meth c 8 cs D kz_cl A Ag (lw_Z below #[Value.ref b] s) 1662 (kt_W_law_1662 N xs K) := by
    refine wq_goto_ok (tgt := 2013) h0 kd_W_law_1662 (by decide) ?_
    exact hb_2013
  have hb_1646 : wq_Snd p l e room_1 s m #[Value.ref b] below meth c 8 cs D kz_cl A Ag (lw_Z below #[Value.ref b] s) 1646 (kt_W_law_1646 N xs K) := by
    refine wq_iload_ok h0 kd_W_law_1646 ?_
    refine wq_if_ne_ok (tgt := 1662) h0 kd_W_law_1648 (by decide) ?_ ?_
    · exact hb_1662
    refine wq_aload_n_ok h0 kd_W_law_1651 rfl ?_
    refine wq_iconst_ok h0 kd_W_law_1652 (by decide +kernel) ?_
    refine wq_lald_ok h0 hK kd_W_law_1653 ?_
    refine wq_lload_ok h0 kd_W_law_1654 ?_
    refine wq_lcmp_eq_ok (tgt := 1662) h0 kd_W_law_1656 kd_W_law_1657 (by decide) ?_ ?_
    · exact hb_1662
    refine wq_iconst_ok h0 kd_W_law_1660 (by decide +kernel) ?_
    exact kl_end_ok h0 hr hlk kd_W_law_1661 hA9
  have hb_1598 : wq_Snd p l e room_1 s m #[Value.ref b] below meth c 8 cs D kz_cl A Ag (lw_Z below #[Value.ref b] s) 1598 (kt_W_law_1598 N xs K) := by
    refine wq_aload_n_ok h0 kd_W_law_1598 rfl ?_
    refine wq_aload_n_ok h0 kd_W_law_1599 rfl ?_
    refine wq_iload_ok h0 kd_W_law_1600 ?_
    refine wq_iconst_ok h0 kd_W_law_1602 (by decide +kernel) ?_
    refine wq_iadd_ok h0 kd_W_law_1603 ?_
    refine wq_sld_ok h0 hX hN9 hbl hbA hg kd_W_law_1604 ?_
    refine wq_aload_n_ok h0 kd_W_law_1605 rfl ?_
    refine wq_iload_ok h0 kd_W_law_1606 ?_
    refine wq_iconst_ok h0 kd_W_law_1608 (by decide +kernel) ?_
    refine wq_iadd_ok h0 kd_W_law_1609 ?_
    refine wq_sld_ok h0 hX hN9 hbl hbA hg kd_W_law_1610 ?_
    refine wq_aload_n_ok h0 kd_W_law_1611 rfl ?_
    refine wq_call_ok hA (wq_runSH ⟨h0.1, h0.2, hml, hown, hts⟩ (kv_W_release hl) kw_G kw_919 kw_0 kw_917 kw_918 ⟨by decide +kernel, by decide +kernel, by decide +kernel⟩ rfl rfl ⟨Nat.le_of_ble_eq_true rfl, Nat.le_of_ble_eq_true rfl⟩ hK hZ hN hA kd_W_law_1612) wq_x0_ok ?_
    refine wq_istore_ok h0 kd_W_law_1615 (Nat.le_of_ble_eq_true rfl) ?_
    refine wq_aload_n_ok h0 kd_W_law_1617 rfl ?_
    refine wq_aload_n_ok h0 kd_W_law_1618 rfl ?_
    refine wq_iload_ok h0 kd_W_law_1619 ?_
    refine wq_iconst_ok h0 kd_W_law_1621 (by decide +kernel) ?_
    refine wq_iadd_ok h0 kd_W_law_1622 ?_
    refine wq_sld_ok h0 hX hN9 hbl hbA hg kd_W_law_1623 ?_
    refine wq_aload_n_ok h0 kd_W_law_1624 rfl ?_
    refine wq_iload_ok h0 kd_W_law_1625 ?_
    refine wq_iconst_ok h0 kd_W_law_1627 (by decide +kernel) ?_
    refine wq_iadd_ok h0 kd_W_law_1628 ?_
    refine wq_sld_ok h0 hX hN9 hbl hbA hg kd_W_law_1629 ?_
    refine wq_call_ok hA (wq_runV (ci := 9) ⟨h0.1, h0.2, hml, hown, hts⟩ (kv_M_release hl) ⟨(wq_cB hts kw_G kw_1380 kw_10 kw_1377 ⟨by decide +kernel, by decide +kernel, by decide +kernel⟩ rfl rfl ⟨Nat.le_of_ble_eq_true rfl, Nat.le_of_ble_eq_true rfl⟩), hts _ kw_1378, hts _ kw_1379⟩ rfl rfl hK hZ hN hA kd_W_law_1630) wq_x0_ok ?_
    refine wq_lstore_ok h0 kd_W_law_1633 (Nat.le_of_ble_eq_true rfl) ?_
    refine wq_aload_n_ok h0 kd_W_law_1635 rfl ?_
    refine wq_call_ok hA (wq_runV (ci := 9) ⟨h0.1, h0.2, hml, hown, hts⟩ (kv_M_thrown hl) ⟨(wq_cB hts kw_G kw_1190 kw_10 kw_1187 ⟨by decide +kernel, by decide +kernel, by decide +kernel⟩ rfl rfl ⟨Nat.le_of_ble_eq_true rfl, Nat.le_of_ble_eq_true rfl⟩), hts _ kw_1188, hts _ kw_1189⟩ rfl rfl hK hZ hN hA kd_W_law_1636) wq_x0_ok ?_
    refine wq_iload_ok h0 kd_W_law_1639 ?_
    refine wq_icmp_eq_ok (tgt := 1646) h0 kd_W_law_1641 (by decide) ?_ ?_
    · exact hb_1646
    refine wq_iconst_ok h0 kd_W_law_1644 (by decide +kernel) ?_
    exact kl_end_ok h0 hr hlk kd_W_law_1645 hA9
  have hb_1729 : wq_Snd p l e room_1 s m #[Value.ref b] below meth c 8 cs D kz_cl A Ag (lw_Z below #[Value.ref b] s) 1729 (kt_W_law_1729 N xs K) := by
    refine wq_goto_ok (tgt := 2013) h0 kd_W_law_1729 (by decide) ?_
    exact hb_2013
  have hb_1713 : wq_Snd p l e room_1 s m #[Value.ref b] below meth c 8 cs D kz_cl A Ag (lw_Z below #[Value.ref b] s) 1713 (kt_W_law_1713 N xs K) := by
    refine wq_iload_ok h0 kd_W_law_1713 ?_
    refine wq_if_ne_ok (tgt := 1729) h0 kd_W_law_1715 (by decide) ?_ ?_
    · exact hb_1729
    refine wq_aload_n_ok h0 kd_W_law_1718 rfl ?_
    refine wq_iconst_ok h0 kd_W_law_1719 (by decide +kernel) ?_
    refine wq_lald_ok h0 hK kd_W_law_1720 ?_
    refine wq_lload_ok h0 kd_W_law_1721 ?_
    refine wq_lcmp_eq_ok (tgt := 1729) h0 kd_W_law_1723 kd_W_law_1724 (by decide) ?_ ?_
    · exact hb_1729
    refine wq_iconst_ok h0 kd_W_law_1727 (by decide +kernel) ?_
    exact kl_end_ok h0 hr hlk kd_W_law_1728 hA9
  have hb_1665 : wq_Snd p l e room_1 s m #[Value.ref b] below meth c 8 cs D kz_cl A Ag (lw_Z below #[Value.ref b] s) 1665 (kt_W_law_1665 N xs K) := by
    refine wq_aload_n_ok h0 kd_W_law_1665 rfl ?_
    refine wq_aload_n_ok h0 kd_W_law_1666 rfl ?_
    refine wq_iload_ok h0 kd_W_law_1667 ?_
    refine wq_iconst_ok h0 kd_W_law_1669 (by decide +kernel) ?_
    refine wq_iadd_ok h0 kd_W_law_1670 ?_
    refine wq_sld_ok h0 hX hN9 hbl hbA hg kd_W_law_1671 ?_
    refine wq_aload_n_ok h0 kd_W_law_1672 rfl ?_
    refine wq_iload_ok h0 kd_W_law_1673 ?_
    refine wq_iconst_ok h0 kd_W_law_1675 (by decide +kernel) ?_
    refine wq_iadd_ok h0 kd_W_law_1676 ?_
    refine wq_sld_ok h0 hX hN9 hbl hbA hg kd_W_law_1677 ?_
    refine wq_aload_n_ok h0 kd_W_law_1678 rfl ?_
    refine wq_call_ok hA (wq_runSH ⟨h0.1, h0.2, hml, hown, hts⟩ (kv_W_export hl) kw_G kw_939 kw_0 kw_937 kw_938 ⟨by decide +kernel, by decide +kernel, by decide +kernel⟩ rfl rfl ⟨Nat.le_of_ble_eq_true rfl, Nat.le_of_ble_eq_true rfl⟩ hK hZ hN hA kd_W_law_1679) wq_x0_ok ?_
    refine wq_istore_ok h0 kd_W_law_1682 (Nat.le_of_ble_eq_true rfl) ?_
    refine wq_aload_n_ok h0 kd_W_law_1684 rfl ?_
    refine wq_aload_n_ok h0 kd_W_law_1685 rfl ?_
    refine wq_iload_ok h0 kd_W_law_1686 ?_
    refine wq_iconst_ok h0 kd_W_law_1688 (by decide +kernel) ?_
    refine wq_iadd_ok h0 kd_W_law_1689 ?_
    refine wq_sld_ok h0 hX hN9 hbl hbA hg kd_W_law_1690 ?_
    refine wq_aload_n_ok h0 kd_W_law_1691 rfl ?_
    refine wq_iload_ok h0 kd_W_law_1692 ?_
    refine wq_iconst_ok h0 kd_W_law_1694 (by decide +kernel) ?_
    refine wq_iadd_ok h0 kd_W_law_1695 ?_
    refine wq_sld_ok h0 hX hN9 hbl hbA hg kd_W_law_1696 ?_
    refine wq_call_ok hA (wq_runV (ci := 9) ⟨h0.1, h0.2, hml, hown, hts⟩ (kv_M_export hl) ⟨(wq_cB hts kw_G kw_1392 kw_10 kw_1389 ⟨by decide +kernel, by decide +kernel, by decide +kernel⟩ rfl rfl ⟨Nat.le_of_ble_eq_true rfl, Nat.le_of_ble_eq_true rfl⟩), hts _ kw_1390, hts _ kw_1391⟩ rfl rfl hK hZ hN hA kd_W_law_1697) wq_x0_ok ?_
    refine wq_lstore_ok h0 kd_W_law_1700 (Nat.le_of_ble_eq_true rfl) ?_
    refine wq_aload_n_ok h0 kd_W_law_1702 rfl ?_
    refine wq_call_ok hA (wq_runV (ci := 9) ⟨h0.1, h0.2, hml, hown, hts⟩ (kv_M_thrown hl) ⟨(wq_cB hts kw_G kw_1190 kw_10 kw_1187 ⟨by decide +kernel, by decide +kernel, by decide +kernel⟩ rfl rfl ⟨Nat.le_of_ble_eq_true rfl, Nat.le_of_ble_eq_true rfl⟩), hts _ kw_1188, hts _ kw_1189⟩ rfl rfl hK hZ hN hA kd_W_law_1703) wq_x0_ok ?_
    refine wq_iload_ok h0 kd_W_law_1706 ?_
    refine wq_icmp_eq_ok (tgt := 1713) h0 kd_W_law_1708 (by decide) ?_ ?_
    · exact hb_1713
    refine wq_iconst_ok h0 kd_W_law_1711 (by decide +kernel) ?_
    exact kl_end_ok h0 hr hlk kd_W_law_1712 hA9
  have hb_1821 : wq_Snd p l e room_1 s m #[Value.ref b] below meth c 8 cs D kz_cl A Ag (lw_Z below #[Value.ref b] s) 1821 (kt_W_law_1821 N xs K) := by
    refine wq_goto_ok (tgt := 2013) h0 kd_W_law_1821 (by decide) ?_
    exact hb_2013
  have hb_1804 : wq_Snd p l e room_1 s m #[Value.ref b] below meth c 8 cs D kz_cl A Ag (lw_Z below #[Value.ref b] s) 1804 (kt_W_law_1804 N xs K) := by
    refine wq_iload_ok h0 kd_W_law_1804 ?_
    refine wq_if_ne_ok (tgt := 1821) h0 kd_W_law_1806 (by decide) ?_ ?_
    · exact hb_1821
    refine wq_aload_n_ok h0 kd_W_law_1809 rfl ?_
    refine wq_iconst_ok h0 kd_W_law_1810 (by decide +kernel) ?_
    refine wq_lald_ok h0 hK kd_W_law_1811 ?_
    refine wq_iload_ok h0 kd_W_law_1812 ?_
    refine wq_i2l_ok h0 kd_W_law_1814 ?_
    refine wq_lcmp_eq_ok (tgt := 1821) h0 kd_W_law_1815 kd_W_law_1816 (by decide) ?_ ?_
    · exact hb_1821
    refine wq_iconst_ok h0 kd_W_law_1819 (by decide +kernel) ?_
    exact kl_end_ok h0 hr hlk kd_W_law_1820 hA9
  have hb_1732 : wq_Snd p l e room_1 s m #[Value.ref b] below meth c 8 cs D kz_cl A Ag (lw_Z below #[Value.ref b] s) 1732 (kt_W_law_1732 N xs K) := by
    refine wq_aload_n_ok h0 kd_W_law_1732 rfl ?_
    refine wq_aload_n_ok h0 kd_W_law_1733 rfl ?_
    refine wq_iload_ok h0 kd_W_law_1734 ?_
    refine wq_iconst_ok h0 kd_W_law_1736 (by decide +kernel) ?_
    refine wq_iadd_ok h0 kd_W_law_1737 ?_
    refine wq_sld_ok h0 hX hN9 hbl hbA hg kd_W_law_1738 ?_
    refine wq_aload_n_ok h0 kd_W_law_1739 rfl ?_
    refine wq_iload_ok h0 kd_W_law_1740 ?_
    refine wq_iconst_ok h0 kd_W_law_1742 (by decide +kernel) ?_
    refine wq_iadd_ok h0 kd_W_law_1743 ?_
    refine wq_sld_ok h0 hX hN9 hbl hbA hg kd_W_law_1744 ?_
    refine wq_aload_n_ok h0 kd_W_law_1745 rfl ?_
    refine wq_iload_ok h0 kd_W_law_1746 ?_
    refine wq_iconst_ok h0 kd_W_law_1748 (by decide +kernel) ?_
    refine wq_iadd_ok h0 kd_W_law_1749 ?_
    refine wq_sld_ok h0 hX hN9 hbl hbA hg kd_W_law_1750 ?_
    refine wq_aload_n_ok h0 kd_W_law_1751 rfl ?_
    refine wq_iload_ok h0 kd_W_law_1752 ?_
    refine wq_iconst_ok h0 kd_W_law_1754 (by decide +kernel) ?_
    refine wq_iadd_ok h0 kd_W_law_1755 ?_
    refine wq_sld_ok h0 hX hN9 hbl hbA hg kd_W_law_1756 ?_
    refine wq_aload_n_ok h0 kd_W_law_1757 rfl ?_
    refine wq_call_ok hA (wq_runSH ⟨h0.1, h0.2, hml, hown, hts⟩ (kv_W_work hl) kw_G kw_946 kw_0 kw_944 kw_945 ⟨by decide +kernel, by decide +kernel, by decide +kernel⟩ rfl rfl ⟨Nat.le_of_ble_eq_true rfl, Nat.le_of_ble_eq_true rfl⟩ hK hZ hN hA kd_W_law_1758) wq_x0_ok ?_
    refine wq_istore_ok h0 kd_W_law_1761 (Nat.le_of_ble_eq_true rfl) ?_
    refine wq_aload_n_ok h0 kd_W_law_1763 rfl ?_
    refine wq_aload_n_ok h0 kd_W_law_1764 rfl ?_
    refine wq_iload_ok h0 kd_W_law_1765 ?_
    refine wq_iconst_ok h0 kd_W_law_1767 (by decide +kernel) ?_
    refine wq_iadd_ok h0 kd_W_law_1768 ?_
    refine wq_sld_ok h0 hX hN9 hbl hbA hg kd_W_law_1769 ?_
    refine wq_aload_n_ok h0 kd_W_law_1770 rfl ?_
    refine wq_iload_ok h0 kd_W_law_1771 ?_
    refine wq_iconst_ok h0 kd_W_law_1773 (by decide +kernel) ?_
    refine wq_iadd_ok h0 kd_W_law_1774 ?_
    refine wq_sld_ok h0 hX hN9 hbl hbA hg kd_W_law_1775 ?_
    refine wq_aload_n_ok h0 kd_W_law_1776 rfl ?_
    refine wq_iload_ok h0 kd_W_law_1777 ?_
    refine wq_iconst_ok h0 kd_W_law_1779 (by decide +kernel) ?_
    refine wq_iadd_ok h0 kd_W_law_1780 ?_
    refine wq_sld_ok h0 hX hN9 hbl hbA hg kd_W_law_1781 ?_
    refine wq_aload_n_ok h0 kd_W_law_1782 rfl ?_
    refine wq_iload_ok h0 kd_W_law_1783 ?_
    refine wq_iconst_ok h0 kd_W_law_1785 (by decide +kernel) ?_
    refine wq_iadd_ok h0 kd_W_law_1786 ?_
    refine wq_sld_ok h0 hX hN9 hbl hbA hg kd_W_law_1787 ?_
    refine wq_call_ok hA (wq_runV (ci := 9) ⟨h0.1, h0.2, hml, hown, hts⟩ (kv_M_work hl) ⟨(wq_cB hts kw_G kw_1396 kw_10 kw_1393 ⟨by decide +kernel, by decide +kernel, by decide +kernel⟩ rfl rfl ⟨Nat.le_of_ble_eq_true rfl, Nat.le_of_ble_eq_true rfl⟩), hts _ kw_1394, hts _ kw_1395⟩ rfl rfl hK hZ hN hA kd_W_law_1788) wq_x0_ok ?_
    refine wq_istore_ok h0 kd_W_law_1791 (Nat.le_of_ble_eq_true rfl) ?_
    refine wq_aload_n_ok h0 kd_W_law_1793 rfl ?_
    refine wq_call_ok hA (wq_runV (ci := 9) ⟨h0.1, h0.2, hml, hown, hts⟩ (kv_M_thrown hl) ⟨(wq_cB hts kw_G kw_1190 kw_10 kw_1187 ⟨by decide +kernel, by decide +kernel, by decide +kernel⟩ rfl rfl ⟨Nat.le_of_ble_eq_true rfl, Nat.le_of_ble_eq_true rfl⟩), hts _ kw_1188, hts _ kw_1189⟩ rfl rfl hK hZ hN hA kd_W_law_1794) wq_x0_ok ?_
    refine wq_iload_ok h0 kd_W_law_1797 ?_
    refine wq_icmp_eq_ok (tgt := 1804) h0 kd_W_law_1799 (by decide) ?_ ?_
    · exact hb_1804
    refine wq_iconst_ok h0 kd_W_law_1802 (by decide +kernel) ?_
    exact kl_end_ok h0 hr hlk kd_W_law_1803 hA9
  have hb_1888 : wq_Snd p l e room_1 s m #[Value.ref b] below meth c 8 cs D kz_cl A Ag (lw_Z below #[Value.ref b] s) 1888 (kt_W_law_1888 N xs K) := by
    refine wq_goto_ok (tgt := 2013) h0 kd_W_law_1888 (by decide) ?_
    exact hb_2013
  have hb_1872 : wq_Snd p l e room_1 s m #[Value.ref b] below meth c 8 cs D kz_cl A Ag (lw_Z below #[Value.ref b] s) 1872 (kt_W_law_1872 N xs K) := by
    refine wq_iload_ok h0 kd_W_law_1872 ?_
    refine wq_if_ne_ok (tgt := 1888) h0 kd_W_law_1874 (by decide) ?_ ?_
    · exact hb_1888
    refine wq_aload_n_ok h0 kd_W_law_1877 rfl ?_
    refine wq_iconst_ok h0 kd_W_law_1878 (by decide +kernel) ?_
    refine wq_lald_ok h0 hK kd_W_law_1879 ?_
    refine wq_lload_ok h0 kd_W_law_1880 ?_
    refine wq_lcmp_eq_ok (tgt := 1888) h0 kd_W_law_1882 kd_W_law_1883 (by decide) ?_ ?_
    · exact hb_1888
    refine wq_iconst_ok h0 kd_W_law_1886 (by decide +kernel) ?_
    exact kl_end_ok h0 hr hlk kd_W_law_1887 hA9
  have hb_1824 : wq_Snd p l e room_1 s m #[Value.ref b] below meth c 8 cs D kz_cl A Ag (lw_Z below #[Value.ref b] s) 1824 (kt_W_law_1824 N xs K) := by
    refine wq_aload_n_ok h0 kd_W_law_1824 rfl ?_
    refine wq_aload_n_ok h0 kd_W_law_1825 rfl ?_
    refine wq_iload_ok h0 kd_W_law_1826 ?_
    refine wq_iconst_ok h0 kd_W_law_1828 (by decide +kernel) ?_
    refine wq_iadd_ok h0 kd_W_law_1829 ?_
    refine wq_sld_ok h0 hX hN9 hbl hbA hg kd_W_law_1830 ?_
    refine wq_aload_n_ok h0 kd_W_law_1831 rfl ?_
    refine wq_iload_ok h0 kd_W_law_1832 ?_
    refine wq_iconst_ok h0 kd_W_law_1834 (by decide +kernel) ?_
    refine wq_iadd_ok h0 kd_W_law_1835 ?_
    refine wq_sld_ok h0 hX hN9 hbl hbA hg kd_W_law_1836 ?_
    refine wq_aload_n_ok h0 kd_W_law_1837 rfl ?_
    refine wq_call_ok hA (wq_runSH ⟨h0.1, h0.2, hml, hown, hts⟩ (kv_W_lot hl) kw_G kw_953 kw_0 kw_951 kw_952 ⟨by decide +kernel, by decide +kernel, by decide +kernel⟩ rfl rfl ⟨Nat.le_of_ble_eq_true rfl, Nat.le_of_ble_eq_true rfl⟩ hK hZ hN hA kd_W_law_1838) wq_x0_ok ?_
    refine wq_istore_ok h0 kd_W_law_1841 (Nat.le_of_ble_eq_true rfl) ?_
    refine wq_aload_n_ok h0 kd_W_law_1843 rfl ?_
    refine wq_aload_n_ok h0 kd_W_law_1844 rfl ?_
    refine wq_iload_ok h0 kd_W_law_1845 ?_
    refine wq_iconst_ok h0 kd_W_law_1847 (by decide +kernel) ?_
    refine wq_iadd_ok h0 kd_W_law_1848 ?_
    refine wq_sld_ok h0 hX hN9 hbl hbA hg kd_W_law_1849 ?_
    refine wq_aload_n_ok h0 kd_W_law_1850 rfl ?_
    refine wq_iload_ok h0 kd_W_law_1851 ?_
    refine wq_iconst_ok h0 kd_W_law_1853 (by decide +kernel) ?_
    refine wq_iadd_ok h0 kd_W_law_1854 ?_
    refine wq_sld_ok h0 hX hN9 hbl hbA hg kd_W_law_1855 ?_
    refine wq_call_ok hA (wq_runV (ci := 9) ⟨h0.1, h0.2, hml, hown, hts⟩ (kv_M_lot hl) ⟨(wq_cB hts kw_G kw_1400 kw_10 kw_1397 ⟨by decide +kernel, by decide +kernel, by decide +kernel⟩ rfl rfl ⟨Nat.le_of_ble_eq_true rfl, Nat.le_of_ble_eq_true rfl⟩), hts _ kw_1398, hts _ kw_1399⟩ rfl rfl hK hZ hN hA kd_W_law_1856) wq_x0_ok ?_
    refine wq_lstore_ok h0 kd_W_law_1859 (Nat.le_of_ble_eq_true rfl) ?_
    refine wq_aload_n_ok h0 kd_W_law_1861 rfl ?_
    refine wq_call_ok hA (wq_runV (ci := 9) ⟨h0.1, h0.2, hml, hown, hts⟩ (kv_M_thrown hl) ⟨(wq_cB hts kw_G kw_1190 kw_10 kw_1187 ⟨by decide +kernel, by decide +kernel, by decide +kernel⟩ rfl rfl ⟨Nat.le_of_ble_eq_true rfl, Nat.le_of_ble_eq_true rfl⟩), hts _ kw_1188, hts _ kw_1189⟩ rfl rfl hK hZ hN hA kd_W_law_1862) wq_x0_ok ?_
    refine wq_iload_ok h0 kd_W_law_1865 ?_
    refine wq_icmp_eq_ok (tgt := 1872) h0 kd_W_law_1867 (by decide) ?_ ?_
    · exact hb_1872
    refine wq_iconst_ok h0 kd_W_law_1870 (by decide +kernel) ?_
    exact kl_end_ok h0 hr hlk kd_W_law_1871 hA9
  have hb_1955 : wq_Snd p l e room_1 s m #[Value.ref b] below meth c 8 cs D kz_cl A Ag (lw_Z below #[Value.ref b] s) 1955 (kt_W_law_1955 N xs K) := by
    refine wq_goto_ok (tgt := 2013) h0 kd_W_law_1955 (by decide) ?_
    exact hb_2013
  have hb_1939 : wq_Snd p l e room_1 s m #[Value.ref b] below meth c 8 cs D kz_cl A Ag (lw_Z below #[Value.ref b] s) 1939 (kt_W_law_1939 N xs K) := by
    refine wq_iload_ok h0 kd_W_law_1939 ?_
    refine wq_if_ne_ok (tgt := 1955) h0 kd_W_law_1941 (by decide) ?_ ?_
    · exact hb_1955
    refine wq_aload_n_ok h0 kd_W_law_1944 rfl ?_
    refine wq_iconst_ok h0 kd_W_law_1945 (by decide +kernel) ?_
    refine wq_lald_ok h0 hK kd_W_law_1946 ?_
    refine wq_lload_ok h0 kd_W_law_1947 ?_
    refine wq_lcmp_eq_ok (tgt := 1955) h0 kd_W_law_1949 kd_W_law_1950 (by decide) ?_ ?_
    · exact hb_1955
    refine wq_iconst_ok h0 kd_W_law_1953 (by decide +kernel) ?_
    exact kl_end_ok h0 hr hlk kd_W_law_1954 hA9
  have hb_1891 : wq_Snd p l e room_1 s m #[Value.ref b] below meth c 8 cs D kz_cl A Ag (lw_Z below #[Value.ref b] s) 1891 (kt_W_law_1891 N xs K) := by
    refine wq_aload_n_ok h0 kd_W_law_1891 rfl ?_
    refine wq_aload_n_ok h0 kd_W_law_1892 rfl ?_
    refine wq_iload_ok h0 kd_W_law_1893 ?_
    refine wq_iconst_ok h0 kd_W_law_1895 (by decide +kernel) ?_
    refine wq_iadd_ok h0 kd_W_law_1896 ?_
    refine wq_sld_ok h0 hX hN9 hbl hbA hg kd_W_law_1897 ?_
    refine wq_aload_n_ok h0 kd_W_law_1898 rfl ?_
    refine wq_iload_ok h0 kd_W_law_1899 ?_
    refine wq_iconst_ok h0 kd_W_law_1901 (by decide +kernel) ?_
    refine wq_iadd_ok h0 kd_W_law_1902 ?_
    refine wq_sld_ok h0 hX hN9 hbl hbA hg kd_W_law_1903 ?_
    refine wq_aload_n_ok h0 kd_W_law_1904 rfl ?_
    refine wq_call_ok hA (wq_runSH ⟨h0.1, h0.2, hml, hown, hts⟩ (kv_W_account hl) kw_G kw_960 kw_0 kw_958 kw_959 ⟨by decide +kernel, by decide +kernel, by decide +kernel⟩ rfl rfl ⟨Nat.le_of_ble_eq_true rfl, Nat.le_of_ble_eq_true rfl⟩ hK hZ hN hA kd_W_law_1905) wq_x0_ok ?_
    refine wq_istore_ok h0 kd_W_law_1908 (Nat.le_of_ble_eq_true rfl) ?_
    refine wq_aload_n_ok h0 kd_W_law_1910 rfl ?_
    refine wq_aload_n_ok h0 kd_W_law_1911 rfl ?_
    refine wq_iload_ok h0 kd_W_law_1912 ?_
    refine wq_iconst_ok h0 kd_W_law_1914 (by decide +kernel) ?_
    refine wq_iadd_ok h0 kd_W_law_1915 ?_
    refine wq_sld_ok h0 hX hN9 hbl hbA hg kd_W_law_1916 ?_
    refine wq_aload_n_ok h0 kd_W_law_1917 rfl ?_
    refine wq_iload_ok h0 kd_W_law_1918 ?_
    refine wq_iconst_ok h0 kd_W_law_1920 (by decide +kernel) ?_
    refine wq_iadd_ok h0 kd_W_law_1921 ?_
    refine wq_sld_ok h0 hX hN9 hbl hbA hg kd_W_law_1922 ?_
    refine wq_call_ok hA (wq_runV (ci := 9) ⟨h0.1, h0.2, hml, hown, hts⟩ (kv_M_account hl) ⟨(wq_cB hts kw_G kw_1404 kw_10 kw_1401 ⟨by decide +kernel, by decide +kernel, by decide +kernel⟩ rfl rfl ⟨Nat.le_of_ble_eq_true rfl, Nat.le_of_ble_eq_true rfl⟩), hts _ kw_1402, hts _ kw_1403⟩ rfl rfl hK hZ hN hA kd_W_law_1923) wq_x0_ok ?_
    refine wq_lstore_ok h0 kd_W_law_1926 (Nat.le_of_ble_eq_true rfl) ?_
    refine wq_aload_n_ok h0 kd_W_law_1928 rfl ?_
    refine wq_call_ok hA (wq_runV (ci := 9) ⟨h0.1, h0.2, hml, hown, hts⟩ (kv_M_thrown hl) ⟨(wq_cB hts kw_G kw_1190 kw_10 kw_1187 ⟨by decide +kernel, by decide +kernel, by decide +kernel⟩ rfl rfl ⟨Nat.le_of_ble_eq_true rfl, Nat.le_of_ble_eq_true rfl⟩), hts _ kw_1188, hts _ kw_1189⟩ rfl rfl hK hZ hN hA kd_W_law_1929) wq_x0_ok ?_
    refine wq_iload_ok h0 kd_W_law_1932 ?_
    refine wq_icmp_eq_ok (tgt := 1939) h0 kd_W_law_1934 (by decide) ?_ ?_
    · exact hb_1939
    refine wq_iconst_ok h0 kd_W_law_1937 (by decide +kernel) ?_
    exact kl_end_ok h0 hr hlk kd_W_law_1938 hA9
  have hb_2010 : wq_Snd p l e room_1 s m #[Value.ref b] below meth c 8 cs D kz_cl A Ag (lw_Z below #[Value.ref b] s) 2010 (kt_W_law_2010 N xs K) := by
    refine wq_goto_ok (tgt := 2013) h0 kd_W_law_2010 (by decide) ?_
    exact hb_2013
  have hb_1994 : wq_Snd p l e room_1 s m #[Value.ref b] below meth c 8 cs D kz_cl A Ag (lw_Z below #[Value.ref b] s) 1994 (kt_W_law_1994 N xs K) := by
    refine wq_iload_ok h0 kd_W_law_1994 ?_
    refine wq_if_ne_ok (tgt := 2010) h0 kd_W_law_1996 (by decide) ?_ ?_
    · exact hb_2010
    refine wq_aload_n_ok h0 kd_W_law_1999 rfl ?_
    refine wq_iconst_ok h0 kd_W_law_2000 (by decide +kernel) ?_
    refine wq_lald_ok h0 hK kd_W_law_2001 ?_
    refine wq_lload_ok h0 kd_W_law_2002 ?_
    refine wq_lcmp_eq_ok (tgt := 2010) h0 kd_W_law_2004 kd_W_law_2005 (by decide) ?_ ?_
    · exact hb_2010
    refine wq_iconst_ok h0 kd_W_law_2008 (by decide +kernel) ?_
    exact kl_end_ok h0 hr hlk kd_W_law_2009 hA9
  have hb_1958 : wq_Snd p l e room_1 s m #[Value.ref b] below meth c 8 cs D kz_cl A Ag (lw_Z below #[Value.ref b] s) 1958 (kt_W_law_1958 N xs K) := by
    refine wq_aload_n_ok h0 kd_W_law_1958 rfl ?_
    refine wq_aload_n_ok h0 kd_W_law_1959 rfl ?_
    refine wq_iload_ok h0 kd_W_law_1960 ?_
    refine wq_iconst_ok h0 kd_W_law_1962 (by decide +kernel) ?_
    refine wq_iadd_ok h0 kd_W_law_1963 ?_
    refine wq_sld_ok h0 hX hN9 hbl hbA hg kd_W_law_1964 ?_
    refine wq_aload_n_ok h0 kd_W_law_1965 rfl ?_
    refine wq_call_ok hA (wq_runSH ⟨h0.1, h0.2, hml, hown, hts⟩ (kv_W_books hl) kw_G kw_971 kw_0 kw_969 kw_970 ⟨by decide +kernel, by decide +kernel, by decide +kernel⟩ rfl rfl ⟨Nat.le_of_ble_eq_true rfl, Nat.le_of_ble_eq_true rfl⟩ hK hZ hN hA kd_W_law_1966) wq_x0_ok ?_
    refine wq_istore_ok h0 kd_W_law_1969 (Nat.le_of_ble_eq_true rfl) ?_
    refine wq_aload_n_ok h0 kd_W_law_1971 rfl ?_
    refine wq_aload_n_ok h0 kd_W_law_1972 rfl ?_
    refine wq_iload_ok h0 kd_W_law_1973 ?_
    refine wq_iconst_ok h0 kd_W_law_1975 (by decide +kernel) ?_
    refine wq_iadd_ok h0 kd_W_law_1976 ?_
    refine wq_sld_ok h0 hX hN9 hbl hbA hg kd_W_law_1977 ?_
    refine wq_call_ok hA (wq_runV (ci := 9) ⟨h0.1, h0.2, hml, hown, hts⟩ (kv_M_books hl) ⟨(wq_cB hts kw_G kw_1412 kw_10 kw_1409 ⟨by decide +kernel, by decide +kernel, by decide +kernel⟩ rfl rfl ⟨Nat.le_of_ble_eq_true rfl, Nat.le_of_ble_eq_true rfl⟩), hts _ kw_1410, hts _ kw_1411⟩ rfl rfl hK hZ hN hA kd_W_law_1978) wq_x0_ok ?_
    refine wq_lstore_ok h0 kd_W_law_1981 (Nat.le_of_ble_eq_true rfl) ?_
    refine wq_aload_n_ok h0 kd_W_law_1983 rfl ?_
    refine wq_call_ok hA (wq_runV (ci := 9) ⟨h0.1, h0.2, hml, hown, hts⟩ (kv_M_thrown hl) ⟨(wq_cB hts kw_G kw_1190 kw_10 kw_1187 ⟨by decide +kernel, by decide +kernel, by decide +kernel⟩ rfl rfl ⟨Nat.le_of_ble_eq_true rfl, Nat.le_of_ble_eq_true rfl⟩), hts _ kw_1188, hts _ kw_1189⟩ rfl rfl hK hZ hN hA kd_W_law_1984) wq_x0_ok ?_
    refine wq_iload_ok h0 kd_W_law_1987 ?_
    refine wq_icmp_eq_ok (tgt := 1994) h0 kd_W_law_1989 (by decide) ?_ ?_
    · exact hb_1994
    refine wq_iconst_ok h0 kd_W_law_1992 (by decide +kernel) ?_
    exact kl_end_ok h0 hr hlk kd_W_law_1993 hA9
  have hb_23 : wq_Snd p l e room_1 s m #[Value.ref b] below meth c 8 cs D kz_cl A Ag (lw_Z below #[Value.ref b] s) 23 (kh_W_law_23 N xs K) := by
    refine wq_iload_ok h0 kd_W_law_23 ?_
    refine wq_aload_n_ok h0 kd_W_law_25 rfl ?_
    refine wq_slen_ok h0 hX hbl hbA hg kd_W_law_26 ?_
    refine wq_bipush_ok h0 kd_W_law_27 (by decide +kernel) ?_
    refine wq_isub_ok h0 kd_W_law_29 ?_
    refine wq_icmp_gt_ok (tgt := 2019) h0 kd_W_law_30 (by decide) ?_ ?_
    · exact hb_2019
    refine wq_aload_n_ok h0 kd_W_law_33 rfl ?_
    refine wq_iload_ok h0 kd_W_law_34 ?_
    refine wq_sld_ok h0 hX hN9 hbl hbA hg kd_W_law_36 ?_
    refine wq_bipush_ok h0 kd_W_law_37 (by decide +kernel) ?_
    refine wq_iand_ok h0 kd_W_law_39 ?_
    refine wq_sw_ok ?_ ?_
    · exact List.forall_mem_cons.mpr ⟨⟨152, (by exact hb_152), fun H locs n1 n2 ls rest hw => lv_tableIn (tgt := 152) (off := 112) h0.1 h0.2 kd_W_law_40 (show ¬ (nI 0).toInt < 0 by decide +kernel) (show ¬ 23 < (nI 0).toInt by decide +kernel) (show (#[112, 168, 260, 340, 396, 528, 608, 726, 782, 874, 922, 982, 1057, 1125, 1273, 1333, 1412, 1467, 1558, 1625, 1692, 1784, 1851, 1918] : Array Int)[((nI 0).toInt - 0).toNat]? = some 112 by decide +kernel) (by decide) hw⟩, List.forall_mem_cons.mpr ⟨⟨208, (by exact hb_208), fun H locs n1 n2 ls rest hw => lv_tableIn (tgt := 208) (off := 168) h0.1 h0.2 kd_W_law_40 (show ¬ (nI 1).toInt < 0 by decide +kernel) (show ¬ 23 < (nI 1).toInt by decide +kernel) (show (#[112, 168, 260, 340, 396, 528, 608, 726, 782, 874, 922, 982, 1057, 1125, 1273, 1333, 1412, 1467, 1558, 1625, 1692, 1784, 1851, 1918] : Array Int)[((nI 1).toInt - 0).toNat]? = some 168 by decide +kernel) (by decide) hw⟩, List.forall_mem_cons.mpr ⟨⟨300, (by exact hb_300), fun H locs n1 n2 ls rest hw => lv_tableIn (tgt := 300) (off := 260) h0.1 h0.2 kd_W_law_40 (show ¬ (nI 2).toInt < 0 by decide +kernel) (show ¬ 23 < (nI 2).toInt by decide +kernel) (show (#[112, 168, 260, 340, 396, 528, 608, 726, 782, 874, 922, 982, 1057, 1125, 1273, 1333, 1412, 1467, 1558, 1625, 1692, 1784, 1851, 1918] : Array Int)[((nI 2).toInt - 0).toNat]? = some 260 by decide +kernel) (by decide) hw⟩, List.forall_mem_cons.mpr ⟨⟨380, (by exact hb_380), fun H locs n1 n2 ls rest hw => lv_tableIn (tgt := 380) (off := 340) h0.1 h0.2 kd_W_law_40 (show ¬ (nI 3).toInt < 0 by decide +kernel) (show ¬ 23 < (nI 3).toInt by decide +kernel) (show (#[112, 168, 260, 340, 396, 528, 608, 726, 782, 874, 922, 982, 1057, 1125, 1273, 1333, 1412, 1467, 1558, 1625, 1692, 1784, 1851, 1918] : Array Int)[((nI 3).toInt - 0).toNat]? = some 340 by decide +kernel) (by decide) hw⟩, List.forall_mem_cons.mpr ⟨⟨436, (by exact hb_436), fun H locs n1 n2 ls rest hw => lv_tableIn (tgt := 436) (off := 396) h0.1 h0.2 kd_W_law_40 (show ¬ (nI 4).toInt < 0 by decide +kernel) (show ¬ 23 < (nI 4).toInt by decide +kernel) (show (#[112, 168, 260, 340, 396, 528, 608, 726, 782, 874, 922, 982, 1057, 1125, 1273, 1333, 1412, 1467, 1558, 1625, 1692, 1784, 1851, 1918] : Array Int)[((nI 4).toInt - 0).toNat]? = some 396 by decide +kernel) (by decide) hw⟩, List.forall_mem_cons.mpr ⟨⟨568, (by exact hb_568), fun H locs n1 n2 ls rest hw => lv_tableIn (tgt := 568) (off := 528) h0.1 h0.2 kd_W_law_40 (show ¬ (nI 5).toInt < 0 by decide +kernel) (show ¬ 23 < (nI 5).toInt by decide +kernel) (show (#[112, 168, 260, 340, 396, 528, 608, 726, 782, 874, 922, 982, 1057, 1125, 1273, 1333, 1412, 1467, 1558, 1625, 1692, 1784, 1851, 1918] : Array Int)[((nI 5).toInt - 0).toNat]? = some 528 by decide +kernel) (by decide) hw⟩, List.forall_mem_cons.mpr ⟨⟨648, (by exact hb_648), fun H locs n1 n2 ls rest hw => lv_tableIn (tgt := 648) (off := 608) h0.1 h0.2 kd_W_law_40 (show ¬ (nI 6).toInt < 0 by decide +kernel) (show ¬ 23 < (nI 6).toInt by decide +kernel) (show (#[112, 168, 260, 340, 396, 528, 608, 726, 782, 874, 922, 982, 1057, 1125, 1273, 1333, 1412, 1467, 1558, 1625, 1692, 1784, 1851, 1918] : Array Int)[((nI 6).toInt - 0).toNat]? = some 608 by decide +kernel) (by decide) hw⟩, List.forall_mem_cons.mpr ⟨⟨766, (by exact hb_766), fun H locs n1 n2 ls rest hw => lv_tableIn (tgt := 766) (off := 726) h0.1 h0.2 kd_W_law_40 (show ¬ (nI 7).toInt < 0 by decide +kernel) (show ¬ 23 < (nI 7).toInt by decide +kernel) (show (#[112, 168, 260, 340, 396, 528, 608, 726, 782, 874, 922, 982, 1057, 1125, 1273, 1333, 1412, 1467, 1558, 1625, 1692, 1784, 1851, 1918] : Array Int)[((nI 7).toInt - 0).toNat]? = some 726 by decide +kernel) (by decide) hw⟩, List.forall_mem_cons.mpr ⟨⟨822, (by exact hb_822), fun H locs n1 n2 ls rest hw => lv_tableIn (tgt := 822) (off := 782) h0.1 h0.2 kd_W_law_40 (show ¬ (nI 8).toInt < 0 by decide +kernel) (show ¬ 23 < (nI 8).toInt by decide +kernel) (show (#[112, 168, 260, 340, 396, 528, 608, 726, 782, 874, 922, 982, 1057, 1125, 1273, 1333, 1412, 1467, 1558, 1625, 1692, 1784, 1851, 1918] : Array Int)[((nI 8).toInt - 0).toNat]? = some 782 by decide +kernel) (by decide) hw⟩, List.forall_mem_cons.mpr ⟨⟨914, (by exact hb_914), fun H locs n1 n2 ls rest hw => lv_tableIn (tgt := 914) (off := 874) h0.1 h0.2 kd_W_law_40 (show ¬ (nI 9).toInt < 0 by decide +kernel) (show ¬ 23 < (nI 9).toInt by decide +kernel) (show (#[112, 168, 260, 340, 396, 528, 608, 726, 782, 874, 922, 982, 1057, 1125, 1273, 1333, 1412, 1467, 1558, 1625, 1692, 1784, 1851, 1918] : Array Int)[((nI 9).toInt - 0).toNat]? = some 874 by decide +kernel) (by decide) hw⟩, List.forall_mem_cons.mpr ⟨⟨962, (by exact hb_962), fun H locs n1 n2 ls rest hw => lv_tableIn (tgt := 962) (off := 922) h0.1 h0.2 kd_W_law_40 (show ¬ (nI 10).toInt < 0 by decide +kernel) (show ¬ 23 < (nI 10).toInt by decide +kernel) (show (#[112, 168, 260, 340, 396, 528, 608, 726, 782, 874, 922, 982, 1057, 1125, 1273, 1333, 1412, 1467, 1558, 1625, 1692, 1784, 1851, 1918] : Array Int)[((nI 10).toInt - 0).toNat]? = some 922 by decide +kernel) (by decide) hw⟩, List.forall_mem_cons.mpr ⟨⟨1022, (by exact hb_1022), fun H locs n1 n2 ls rest hw => lv_tableIn (tgt := 1022) (off := 982) h0.1 h0.2 kd_W_law_40 (show ¬ (nI 11).toInt < 0 by decide +kernel) (show ¬ 23 < (nI 11).toInt by decide +kernel) (show (#[112, 168, 260, 340, 396, 528, 608, 726, 782, 874, 922, 982, 1057, 1125, 1273, 1333, 1412, 1467, 1558, 1625, 1692, 1784, 1851, 1918] : Array Int)[((nI 11).toInt - 0).toNat]? = some 982 by decide +kernel) (by decide) hw⟩, List.forall_mem_cons.mpr ⟨⟨1097, (by exact hb_1097), fun H locs n1 n2 ls rest hw => lv_tableIn (tgt := 1097) (off := 1057) h0.1 h0.2 kd_W_law_40 (show ¬ (nI 12).toInt < 0 by decide +kernel) (show ¬ 23 < (nI 12).toInt by decide +kernel) (show (#[112, 168, 260, 340, 396, 528, 608, 726, 782, 874, 922, 982, 1057, 1125, 1273, 1333, 1412, 1467, 1558, 1625, 1692, 1784, 1851, 1918] : Array Int)[((nI 12).toInt - 0).toNat]? = some 1057 by decide +kernel) (by decide) hw⟩, List.forall_mem_cons.mpr ⟨⟨1165, (by exact hb_1165), fun H locs n1 n2 ls rest hw => lv_tableIn (tgt := 1165) (off := 1125) h0.1 h0.2 kd_W_law_40 (show ¬ (nI 13).toInt < 0 by decide +kernel) (show ¬ 23 < (nI 13).toInt by decide +kernel) (show (#[112, 168, 260, 340, 396, 528, 608, 726, 782, 874, 922, 982, 1057, 1125, 1273, 1333, 1412, 1467, 1558, 1625, 1692, 1784, 1851, 1918] : Array Int)[((nI 13).toInt - 0).toNat]? = some 1125 by decide +kernel) (by decide) hw⟩, List.forall_mem_cons.mpr ⟨⟨1313, (by exact hb_1313), fun H locs n1 n2 ls rest hw => lv_tableIn (tgt := 1313) (off := 1273) h0.1 h0.2 kd_W_law_40 (show ¬ (nI 14).toInt < 0 by decide +kernel) (show ¬ 23 < (nI 14).toInt by decide +kernel) (show (#[112, 168, 260, 340, 396, 528, 608, 726, 782, 874, 922, 982, 1057, 1125, 1273, 1333, 1412, 1467, 1558, 1625, 1692, 1784, 1851, 1918] : Array Int)[((nI 14).toInt - 0).toNat]? = some 1273 by decide +kernel) (by decide) hw⟩, List.forall_mem_cons.mpr ⟨⟨1373, (by exact hb_1373), fun H locs n1 n2 ls rest hw => lv_tableIn (tgt := 1373) (off := 1333) h0.1 h0.2 kd_W_law_40 (show ¬ (nI 15).toInt < 0 by decide +kernel) (show ¬ 23 < (nI 15).toInt by decide +kernel) (show (#[112, 168, 260, 340, 396, 528, 608, 726, 782, 874, 922, 982, 1057, 1125, 1273, 1333, 1412, 1467, 1558, 1625, 1692, 1784, 1851, 1918] : Array Int)[((nI 15).toInt - 0).toNat]? = some 1333 by decide +kernel) (by decide) hw⟩, List.forall_mem_cons.mpr ⟨⟨1452, (by exact hb_1452), fun H locs n1 n2 ls rest hw => lv_tableIn (tgt := 1452) (off := 1412) h0.1 h0.2 kd_W_law_40 (show ¬ (nI 16).toInt < 0 by decide +kernel) (show ¬ 23 < (nI 16).toInt by decide +kernel) (show (#[112, 168, 260, 340, 396, 528, 608, 726, 782, 874, 922, 982, 1057, 1125, 1273, 1333, 1412, 1467, 1558, 1625, 1692, 1784, 1851, 1918] : Array Int)[((nI 16).toInt - 0).toNat]? = some 1412 by decide +kernel) (by decide) hw⟩, List.forall_mem_cons.mpr ⟨⟨1507, (by exact hb_1507), fun H locs n1 n2 ls rest hw => lv_tableIn (tgt := 1507) (off := 1467) h0.1 h0.2 kd_W_law_40 (show ¬ (nI 17).toInt < 0 by decide +kernel) (show ¬ 23 < (nI 17).toInt by decide +kernel) (show (#[112, 168, 260, 340, 396, 528, 608, 726, 782, 874, 922, 982, 1057, 1125, 1273, 1333, 1412, 1467, 1558, 1625, 1692, 1784, 1851, 1918] : Array Int)[((nI 17).toInt - 0).toNat]? = some 1467 by decide +kernel) (by decide) hw⟩, List.forall_mem_cons.mpr ⟨⟨1598, (by exact hb_1598), fun H locs n1 n2 ls rest hw => lv_tableIn (tgt := 1598) (off := 1558) h0.1 h0.2 kd_W_law_40 (show ¬ (nI 18).toInt < 0 by decide +kernel) (show ¬ 23 < (nI 18).toInt by decide +kernel) (show (#[112, 168, 260, 340, 396, 528, 608, 726, 782, 874, 922, 982, 1057, 1125, 1273, 1333, 1412, 1467, 1558, 1625, 1692, 1784, 1851, 1918] : Array Int)[((nI 18).toInt - 0).toNat]? = some 1558 by decide +kernel) (by decide) hw⟩, List.forall_mem_cons.mpr ⟨⟨1665, (by exact hb_1665), fun H locs n1 n2 ls rest hw => lv_tableIn (tgt := 1665) (off := 1625) h0.1 h0.2 kd_W_law_40 (show ¬ (nI 19).toInt < 0 by decide +kernel) (show ¬ 23 < (nI 19).toInt by decide +kernel) (show (#[112, 168, 260, 340, 396, 528, 608, 726, 782, 874, 922, 982, 1057, 1125, 1273, 1333, 1412, 1467, 1558, 1625, 1692, 1784, 1851, 1918] : Array Int)[((nI 19).toInt - 0).toNat]? = some 1625 by decide +kernel) (by decide) hw⟩, List.forall_mem_cons.mpr ⟨⟨1732, (by exact hb_1732), fun H locs n1 n2 ls rest hw => lv_tableIn (tgt := 1732) (off := 1692) h0.1 h0.2 kd_W_law_40 (show ¬ (nI 20).toInt < 0 by decide +kernel) (show ¬ 23 < (nI 20).toInt by decide +kernel) (show (#[112, 168, 260, 340, 396, 528, 608, 726, 782, 874, 922, 982, 1057, 1125, 1273, 1333, 1412, 1467, 1558, 1625, 1692, 1784, 1851, 1918] : Array Int)[((nI 20).toInt - 0).toNat]? = some 1692 by decide +kernel) (by decide) hw⟩, List.forall_mem_cons.mpr ⟨⟨1824, (by exact hb_1824), fun H locs n1 n2 ls rest hw => lv_tableIn (tgt := 1824) (off := 1784) h0.1 h0.2 kd_W_law_40 (show ¬ (nI 21).toInt < 0 by decide +kernel) (show ¬ 23 < (nI 21).toInt by decide +kernel) (show (#[112, 168, 260, 340, 396, 528, 608, 726, 782, 874, 922, 982, 1057, 1125, 1273, 1333, 1412, 1467, 1558, 1625, 1692, 1784, 1851, 1918] : Array Int)[((nI 21).toInt - 0).toNat]? = some 1784 by decide +kernel) (by decide) hw⟩, List.forall_mem_cons.mpr ⟨⟨1891, (by exact hb_1891), fun H locs n1 n2 ls rest hw => lv_tableIn (tgt := 1891) (off := 1851) h0.1 h0.2 kd_W_law_40 (show ¬ (nI 22).toInt < 0 by decide +kernel) (show ¬ 23 < (nI 22).toInt by decide +kernel) (show (#[112, 168, 260, 340, 396, 528, 608, 726, 782, 874, 922, 982, 1057, 1125, 1273, 1333, 1412, 1467, 1558, 1625, 1692, 1784, 1851, 1918] : Array Int)[((nI 22).toInt - 0).toNat]? = some 1851 by decide +kernel) (by decide) hw⟩, List.forall_mem_cons.mpr ⟨⟨1958, (by exact hb_1958), fun H locs n1 n2 ls rest hw => lv_tableIn (tgt := 1958) (off := 1918) h0.1 h0.2 kd_W_law_40 (show ¬ (nI 23).toInt < 0 by decide +kernel) (show ¬ 23 < (nI 23).toInt by decide +kernel) (show (#[112, 168, 260, 340, 396, 528, 608, 726, 782, 874, 922, 982, 1057, 1125, 1273, 1333, 1412, 1467, 1558, 1625, 1692, 1784, 1851, 1918] : Array Int)[((nI 23).toInt - 0).toNat]? = some 1918 by decide +kernel) (by decide) hw⟩, fun _ h => absurd h List.not_mem_nil⟩⟩⟩⟩⟩⟩⟩⟩⟩⟩⟩⟩⟩⟩⟩⟩⟩⟩⟩⟩⟩⟩⟩⟩
    · exact ⟨2013, (by exact hb_2013), fun H locs n1 n2 ls rest x hq hw => lv_tableOut (tgt := 2013) h0.1 h0.2 kd_W_law_40 (wq_tabO 0 23 (by decide) (fun k h1 h2 => by rcases (show k = 0 ∨ k = 1 ∨ k = 2 ∨ k = 3 ∨ k = 4 ∨ k = 5 ∨ k = 6 ∨ k = 7 ∨ k = 8 ∨ k = 9 ∨ k = 10 ∨ k = 11 ∨ k = 12 ∨ k = 13 ∨ k = 14 ∨ k = 15 ∨ k = 16 ∨ k = 17 ∨ k = 18 ∨ k = 19 ∨ k = 20 ∨ k = 21 ∨ k = 22 ∨ k = 23 by omega) with rfl | rfl | rfl | rfl | rfl | rfl | rfl | rfl | rfl | rfl | rfl | rfl | rfl | rfl | rfl | rfl | rfl | rfl | rfl | rfl | rfl | rfl | rfl | rfl <;> first | exact hq _ List.mem_cons_self | exact hq _ (List.mem_cons_of_mem _ List.mem_cons_self) | exact hq _ (List.mem_cons_of_mem _ (List.mem_cons_of_mem _ List.mem_cons_self)) | exact hq _ (List.mem_cons_of_mem _ (List.mem_cons_of_mem _ (List.mem_cons_of_mem _ List.mem_cons_self))) | exact hq _ (List.mem_cons_of_mem _ (List.mem_cons_of_mem _ (List.mem_cons_of_mem _ (List.mem_cons_of_mem _ List.mem_cons_self)))) | exact hq _ (List.mem_cons_of_mem _ (List.mem_cons_of_mem _ (List.mem_cons_of_mem _ (List.mem_cons_of_mem _ (List.mem_cons_of_mem _ List.mem_cons_self))))) | exact hq _ (List.mem_cons_of_mem _ (List.mem_cons_of_mem _ (List.mem_cons_of_mem _ (List.mem_cons_of_mem _ (List.mem_cons_of_mem _ (List.mem_cons_of_mem _ List.mem_cons_self)))))) | exact hq _ (List.mem_cons_of_mem _ (List.mem_cons_of_mem _ (List.mem_cons_of_mem _ (List.mem_cons_of_mem _ (List.mem_cons_of_mem _ (List.mem_cons_of_mem _ (List.mem_cons_of_mem _ List.mem_cons_self))))))) | exact hq _ (List.mem_cons_of_mem _ (List.mem_cons_of_mem _ (List.mem_cons_of_mem _ (List.mem_cons_of_mem _ (List.mem_cons_of_mem _ (List.mem_cons_of_mem _ (List.mem_cons_of_mem _ (List.mem_cons_of_mem _ List.mem_cons_self)))))))) | exact hq _ (List.mem_cons_of_mem _ (List.mem_cons_of_mem _ (List.mem_cons_of_mem _ (List.mem_cons_of_mem _ (List.mem_cons_of_mem _ (List.mem_cons_of_mem _ (List.mem_cons_of_mem _ (List.mem_cons_of_mem _ (List.mem_cons_of_mem _ List.mem_cons_self))))))))) | exact hq _ (List.mem_cons_of_mem _ (List.mem_cons_of_mem _ (List.mem_cons_of_mem _ (List.mem_cons_of_mem _ (List.mem_cons_of_mem _ (List.mem_cons_of_mem _ (List.mem_cons_of_mem _ (List.mem_cons_of_mem _ (List.mem_cons_of_mem _ (List.mem_cons_of_mem _ List.mem_cons_self)))))))))) | exact hq _ (List.mem_cons_of_mem _ (List.mem_cons_of_mem _ (List.mem_cons_of_mem _ (List.mem_cons_of_mem _ (List.mem_cons_of_mem _ (List.mem_cons_of_mem _ (List.mem_cons_of_mem _ (List.mem_cons_of_mem _ (List.mem_cons_of_mem _ (List.mem_cons_of_mem _ (List.mem_cons_of_mem _ List.mem_cons_self))))))))))) | exact hq _ (List.mem_cons_of_mem _ (List.mem_cons_of_mem _ (List.mem_cons_of_mem _ (List.mem_cons_of_mem _ (List.mem_cons_of_mem _ (List.mem_cons_of_mem _ (List.mem_cons_of_mem _ (List.mem_cons_of_mem _ (List.mem_cons_of_mem _ (List.mem_cons_of_mem _ (List.mem_cons_of_mem _ (List.mem_cons_of_mem _ List.mem_cons_self)))))))))))) | exact hq _ (List.mem_cons_of_mem _ (List.mem_cons_of_mem _ (List.mem_cons_of_mem _ (List.mem_cons_of_mem _ (List.mem_cons_of_mem _ (List.mem_cons_of_mem _ (List.mem_cons_of_mem _ (List.mem_cons_of_mem _ (List.mem_cons_of_mem _ (List.mem_cons_of_mem _ (List.mem_cons_of_mem _ (List.mem_cons_of_mem _ (List.mem_cons_of_mem _ List.mem_cons_self))))))))))))) | exact hq _ (List.mem_cons_of_mem _ (List.mem_cons_of_mem _ (List.mem_cons_of_mem _ (List.mem_cons_of_mem _ (List.mem_cons_of_mem _ (List.mem_cons_of_mem _ (List.mem_cons_of_mem _ (List.mem_cons_of_mem _ (List.mem_cons_of_mem _ (List.mem_cons_of_mem _ (List.mem_cons_of_mem _ (List.mem_cons_of_mem _ (List.mem_cons_of_mem _ (List.mem_cons_of_mem _ List.mem_cons_self)))))))))))))) | exact hq _ (List.mem_cons_of_mem _ (List.mem_cons_of_mem _ (List.mem_cons_of_mem _ (List.mem_cons_of_mem _ (List.mem_cons_of_mem _ (List.mem_cons_of_mem _ (List.mem_cons_of_mem _ (List.mem_cons_of_mem _ (List.mem_cons_of_mem _ (List.mem_cons_of_mem _ (List.mem_cons_of_mem _ (List.mem_cons_of_mem _ (List.mem_cons_of_mem _ (List.mem_cons_of_mem _ (List.mem_cons_of_mem _ List.mem_cons_self))))))))))))))) | exact hq _ (List.mem_cons_of_mem _ (List.mem_cons_of_mem _ (List.mem_cons_of_mem _ (List.mem_cons_of_mem _ (List.mem_cons_of_mem _ (List.mem_cons_of_mem _ (List.mem_cons_of_mem _ (List.mem_cons_of_mem _ (List.mem_cons_of_mem _ (List.mem_cons_of_mem _ (List.mem_cons_of_mem _ (List.mem_cons_of_mem _ (List.mem_cons_of_mem _ (List.mem_cons_of_mem _ (List.mem_cons_of_mem _ (List.mem_cons_of_mem _ List.mem_cons_self)))))))))))))))) | exact hq _ (List.mem_cons_of_mem _ (List.mem_cons_of_mem _ (List.mem_cons_of_mem _ (List.mem_cons_of_mem _ (List.mem_cons_of_mem _ (List.mem_cons_of_mem _ (List.mem_cons_of_mem _ (List.mem_cons_of_mem _ (List.mem_cons_of_mem _ (List.mem_cons_of_mem _ (List.mem_cons_of_mem _ (List.mem_cons_of_mem _ (List.mem_cons_of_mem _ (List.mem_cons_of_mem _ (List.mem_cons_of_mem _ (List.mem_cons_of_mem _ (List.mem_cons_of_mem _ List.mem_cons_self))))))))))))))))) | exact hq _ (List.mem_cons_of_mem _ (List.mem_cons_of_mem _ (List.mem_cons_of_mem _ (List.mem_cons_of_mem _ (List.mem_cons_of_mem _ (List.mem_cons_of_mem _ (List.mem_cons_of_mem _ (List.mem_cons_of_mem _ (List.mem_cons_of_mem _ (List.mem_cons_of_mem _ (List.mem_cons_of_mem _ (List.mem_cons_of_mem _ (List.mem_cons_of_mem _ (List.mem_cons_of_mem _ (List.mem_cons_of_mem _ (List.mem_cons_of_mem _ (List.mem_cons_of_mem _ (List.mem_cons_of_mem _ List.mem_cons_self)))))))))))))))))) | exact hq _ (List.mem_cons_of_mem _ (List.mem_cons_of_mem _ (List.mem_cons_of_mem _ (List.mem_cons_of_mem _ (List.mem_cons_of_mem _ (List.mem_cons_of_mem _ (List.mem_cons_of_mem _ (List.mem_cons_of_mem _ (List.mem_cons_of_mem _ (List.mem_cons_of_mem _ (List.mem_cons_of_mem _ (List.mem_cons_of_mem _ (List.mem_cons_of_mem _ (List.mem_cons_of_mem _ (List.mem_cons_of_mem _ (List.mem_cons_of_mem _ (List.mem_cons_of_mem _ (List.mem_cons_of_mem _ (List.mem_cons_of_mem _ List.mem_cons_self))))))))))))))))))) | exact hq _ (List.mem_cons_of_mem _ (List.mem_cons_of_mem _ (List.mem_cons_of_mem _ (List.mem_cons_of_mem _ (List.mem_cons_of_mem _ (List.mem_cons_of_mem _ (List.mem_cons_of_mem _ (List.mem_cons_of_mem _ (List.mem_cons_of_mem _ (List.mem_cons_of_mem _ (List.mem_cons_of_mem _ (List.mem_cons_of_mem _ (List.mem_cons_of_mem _ (List.mem_cons_of_mem _ (List.mem_cons_of_mem _ (List.mem_cons_of_mem _ (List.mem_cons_of_mem _ (List.mem_cons_of_mem _ (List.mem_cons_of_mem _ (List.mem_cons_of_mem _ List.mem_cons_self)))))))))))))))))))) | exact hq _ (List.mem_cons_of_mem _ (List.mem_cons_of_mem _ (List.mem_cons_of_mem _ (List.mem_cons_of_mem _ (List.mem_cons_of_mem _ (List.mem_cons_of_mem _ (List.mem_cons_of_mem _ (List.mem_cons_of_mem _ (List.mem_cons_of_mem _ (List.mem_cons_of_mem _ (List.mem_cons_of_mem _ (List.mem_cons_of_mem _ (List.mem_cons_of_mem _ (List.mem_cons_of_mem _ (List.mem_cons_of_mem _ (List.mem_cons_of_mem _ (List.mem_cons_of_mem _ (List.mem_cons_of_mem _ (List.mem_cons_of_mem _ (List.mem_cons_of_mem _ (List.mem_cons_of_mem _ List.mem_cons_self))))))))))))))))))))) | exact hq _ (List.mem_cons_of_mem _ (List.mem_cons_of_mem _ (List.mem_cons_of_mem _ (List.mem_cons_of_mem _ (List.mem_cons_of_mem _ (List.mem_cons_of_mem _ (List.mem_cons_of_mem _ (List.mem_cons_of_mem _ (List.mem_cons_of_mem _ (List.mem_cons_of_mem _ (List.mem_cons_of_mem _ (List.mem_cons_of_mem _ (List.mem_cons_of_mem _ (List.mem_cons_of_mem _ (List.mem_cons_of_mem _ (List.mem_cons_of_mem _ (List.mem_cons_of_mem _ (List.mem_cons_of_mem _ (List.mem_cons_of_mem _ (List.mem_cons_of_mem _ (List.mem_cons_of_mem _ (List.mem_cons_of_mem _ List.mem_cons_self)))))))))))))))))))))) | exact hq _ (List.mem_cons_of_mem _ (List.mem_cons_of_mem _ (List.mem_cons_of_mem _ (List.mem_cons_of_mem _ (List.mem_cons_of_mem _ (List.mem_cons_of_mem _ (List.mem_cons_of_mem _ (List.mem_cons_of_mem _ (List.mem_cons_of_mem _ (List.mem_cons_of_mem _ (List.mem_cons_of_mem _ (List.mem_cons_of_mem _ (List.mem_cons_of_mem _ (List.mem_cons_of_mem _ (List.mem_cons_of_mem _ (List.mem_cons_of_mem _ (List.mem_cons_of_mem _ (List.mem_cons_of_mem _ (List.mem_cons_of_mem _ (List.mem_cons_of_mem _ (List.mem_cons_of_mem _ (List.mem_cons_of_mem _ (List.mem_cons_of_mem _ List.mem_cons_self))))))))))))))))))))))))) (by decide) hw⟩
  have hb_0 : wq_Snd p l e room_1 s m #[Value.ref b] below meth c 8 cs D kz_cl A Ag (lw_Z below #[Value.ref b] s) 0 (kt_W_law_0 N xs K) := by
    refine wq_new_ok h0 hK hA hAg hts ki_B ka_B kb_B hown (hts _ kw_21) (hts _ kw_22) (hts _ kw_1) (ci := 0) rfl (fun ad j hj => kf_B ad j hj) kd_W_law_0 ?_
    refine wq_dup_ok h0 kd_W_law_3 ?_
    refine wq_callA_ok hA hAg (wq_runI ⟨h0.1, h0.2, hml, hown, hts⟩ (kv_B_init hl) ⟨(wq_cB hts kw_G kw_25 kw_1 kw_23 ⟨by decide +kernel, by decide +kernel, by decide +kernel⟩ rfl rfl ⟨Nat.le_of_ble_eq_true rfl, Nat.le_of_ble_eq_true rfl⟩), rfl, hts _ kw_24⟩ hK hZ hN hA kd_W_law_4) ?_
    refine wq_astore_n_ok h0 kd_W_law_7 rfl (Nat.le_of_ble_eq_true rfl) ?_
    refine wq_new_ok h0 hK hA hAg hts ki_M ka_M kb_M hown (hts _ kw_976) (hts _ kw_977) (hts _ kw_10) (ci := 9) rfl (fun ad j hj => kf_M ad j hj) kd_W_law_8 ?_
    refine wq_dup_ok h0 kd_W_law_11 ?_
    refine wq_callA_ok hA hAg (wq_runI ⟨h0.1, h0.2, hml, hown, hts⟩ (kv_M_init hl) ⟨(wq_cB hts kw_G kw_980 kw_10 kw_978 ⟨by decide +kernel, by decide +kernel, by decide +kernel⟩ rfl rfl ⟨Nat.le_of_ble_eq_true rfl, Nat.le_of_ble_eq_true rfl⟩), rfl, hts _ kw_979⟩ hK hZ hN hA kd_W_law_12) ?_
    refine wq_astore_n_ok h0 kd_W_law_15 rfl (Nat.le_of_ble_eq_true rfl) ?_
    refine wq_iconst_ok h0 kd_W_law_16 (by decide +kernel) ?_
    refine wq_newa_ok (atype := .long) h0 hK hA hAg (hts _ kw_265) rfl (Or.inr (Or.inl ⟨rfl, rfl⟩)) kd_W_law_17 ?_
    refine wq_astore_n_ok h0 kd_W_law_19 rfl (Nat.le_of_ble_eq_true rfl) ?_
    refine wq_iconst_ok h0 kd_W_law_20 (by decide +kernel) ?_
    refine wq_istore_ok h0 kd_W_law_21 (Nat.le_of_ble_eq_true rfl) ?_
    exact hKc 23 (by decide)
  exact ⟨hb_23, hb_0⟩
end KLAW
