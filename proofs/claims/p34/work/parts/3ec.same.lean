/-! all answers are the same where Matching alone differs -/
section QO
variable {l : Launch} {g : zG} {pe : Int32} {ct ct2 : Nat → va_E}
theorem FITf (h : ∀ k, ¬ dIn pM k → ct2 k = ct k) (hg : ∀ n, n < 8 → ¬ (10 ≤ gix ct n ∧ gix ct n < 17)) {b kn : Int32} : FIT l g pe ct2 b kn = FIT l g pe ct b kn := funext fun _ => FIT_o h hg
theorem qMayf (h : ∀ k, ¬ dIn pM k → ct2 k = ct k) (hg : ∀ n, n < 8 → ¬ (10 ≤ gix ct n ∧ gix ct n < 17)) {b kn : Int32} : qMay l g pe ct2 b kn = qMay l g pe ct b kn := funext fun j => by
  unfold qMay
  rw [lnF_o h, lvF_o h, FITf h hg]
theorem qFits_o (h : ∀ k, ¬ dIn pM k → ct2 k = ct k) (hg : ∀ n, n < 8 → ¬ (10 ≤ gix ct n ∧ gix ct n < 17)) {b i kn : Int32} : qFits l g pe ct2 b i kn = qFits l g pe ct b i kn := by
  unfold qFits gLn
  rw [LIN_o h, LIV_o h, FITf h hg]
theorem qGiv_o (h : ∀ k, ¬ dIn pM k → ct2 k = ct k) (hg : ∀ n, n < 8 → ¬ (10 ≤ gix ct n ∧ gix ct n < 17)) {b kn : Int32} : qGiv l g pe ct2 b kn = qGiv l g pe ct b kn := by
  unfold qGiv qWays
  rw [bkF_o h, lnF_o h, lvF_o h, FITf h hg]
theorem qMust_o (h : ∀ k, ¬ dIn pM k → ct2 k = ct k) (hg : ∀ n, n < 8 → ¬ (10 ≤ gix ct n ∧ gix ct n < 17)) {b i p kn : Int32} : qMust l g pe ct2 b i p kn = qMust l g pe ct b i p kn := by
  unfold qMust
  rw [LIN_o h, LIV_o h, qMayf h hg]
theorem qGvg_o (h : ∀ k, ¬ dIn pM k → ct2 k = ct k) (hg : ∀ n, n < 8 → ¬ (10 ≤ gix ct n ∧ gix ct n < 17)) {b i kn : Int32} : qGvg l g pe ct2 b i kn = qGvg l g pe ct b i kn := by
  unfold qGvg gLn qLst
  rw [LIN_o h, LIV_o h, lnF_o h, lvF_o h, FITf h hg]
theorem qFew_o (h : ∀ k, ¬ dIn pM k → ct2 k = ct k) (hg : ∀ n, n < 8 → ¬ (10 ≤ gix ct n ∧ gix ct n < 17)) {b kn : Int32} : qFew l g pe ct2 b kn = qFew l g pe ct b kn := by
  unfold qFew gBk
  rw [bkF_o h, lnF_o h, lvF_o h, FITf h hg]
theorem qStp_o (h : ∀ k, ¬ dIn pM k → ct2 k = ct k) (hg : ∀ n, n < 8 → ¬ (10 ≤ gix ct n ∧ gix ct n < 17)) {b kn w : Int32} : qStp l g pe ct2 b kn w = qStp l g pe ct b kn w := by
  unfold qStp qSt
  rw [bkF_o h, LIN_o h, LIV_o h, lnF_o h, FITf h hg]
theorem qSafe_o (h : ∀ k, ¬ dIn pM k → ct2 k = ct k) (hg : ∀ n, n < 8 → ¬ (10 ≤ gix ct n ∧ gix ct n < 17)) {b k kn : Int32} : qSafe l g pe ct2 b k kn = qSafe l g pe ct b k kn := by
  unfold qSafe
  rw [bkF_o h, SLF_o h, FITf h hg]
theorem usS_o (h : ∀ k, ¬ dIn pM k → ct2 k = ct k) (hg : ∀ n, n < 8 → ¬ (10 ≤ gix ct n ∧ gix ct n < 17)) {b : Int32} : ∀ n, n ≤ 8 → usS ct2 b n = usS ct b n
  | 0, _ => rfl
  | n + 1, hn => by
    show (if ¬ (zf 0 (ct2 (gix ct2 n))).toInt = 0 ∧ (zf 1 (ct2 (gix ct2 n))).toInt = b.toInt then usS ct2 b n ||| ((1 : Int32) <<< (nI n &&& 31)) else usS ct2 b n) = (if ¬ (zf 0 (ct (gix ct n))).toInt = 0 ∧ (zf 1 (ct (gix ct n))).toInt = b.toInt then usS ct b n ||| ((1 : Int32) <<< (nI n &&& 31)) else usS ct b n)
    rw [gix_o h, zf_o h (hg n (by omega)), zf_o h (hg n (by omega)), usS_o h hg n (by omega)]
theorem bfS_o (h : ∀ k, ¬ dIn pM k → ct2 k = ct k) (hg : ∀ n, n < 8 → ¬ (10 ≤ gix ct n ∧ gix ct n < 17)) {b i : Int32} : ∀ s, bfS l g pe ct2 b i s = bfS l g pe ct b i s
  | 0 => rfl
  | s + 1 => by
    show (if ((bfS l g pe ct2 b i s).toInt = -1 ∨ (bcf (nI s)).toInt < (bcf (bfS l g pe ct2 b i s)).toInt) ∧ (nI s &&& (usS ct2 b 8 ^^^ (-1))).toInt = 0 ∧ (bcf (qMay l g pe ct2 b (nI s) i.toInt.toNat)).toInt = 1 then nI s else bfS l g pe ct2 b i s) = (if ((bfS l g pe ct b i s).toInt = -1 ∨ (bcf (nI s)).toInt < (bcf (bfS l g pe ct b i s)).toInt) ∧ (nI s &&& (usS ct b 8 ^^^ (-1))).toInt = 0 ∧ (bcf (qMay l g pe ct b (nI s) i.toInt.toNat)).toInt = 1 then nI s else bfS l g pe ct b i s)
    rw [bfS_o h hg s, usS_o h hg 8 (Nat.le_refl _), qMayf h hg]
theorem qFst_o (h : ∀ k, ¬ dIn pM k → ct2 k = ct k) (hg : ∀ n, n < 8 → ¬ (10 ≤ gix ct n ∧ gix ct n < 17)) {b i wh : Int32} : qFst l g pe ct2 b i wh = qFst l g pe ct b i wh := by
  unfold qFst
  rw [LIN_o h, LIV_o h, bfS_o h hg, qMayf h hg]
theorem tgS_o (h : ∀ k, ¬ dIn pM k → ct2 k = ct k) (hg : ∀ n, n < 8 → ¬ (10 ≤ gix ct n ∧ gix ct n < 17)) {k wh : Int32} : ∀ m, tgS l g pe ct2 k wh m = tgS l g pe ct k wh m
  | 0 => rfl
  | m + 1 => by
    show (if (if (zf 2 (ct2 (0 + 55 + 11 * ((bkF ct2).toInt.toNat - (m + 1))))).toInt = 0 then (-1 : Int32) else qBar l g pe ct2 (nI ((bkF ct2).toInt.toNat - (m + 1))) k).toInt = -1 then tgS l g pe ct2 k wh m else (if wh.toInt = 0 then nI ((bkF ct2).toInt.toNat - (m + 1)) else if wh.toInt = 1 then qBar l g pe ct2 (nI ((bkF ct2).toInt.toNat - (m + 1))) k else qMay l g pe ct2 (nI ((bkF ct2).toInt.toNat - (m + 1))) 0 (qBar l g pe ct2 (nI ((bkF ct2).toInt.toNat - (m + 1))) k).toInt.toNat)) = (if (if (zf 2 (ct (0 + 55 + 11 * ((bkF ct).toInt.toNat - (m + 1))))).toInt = 0 then (-1 : Int32) else qBar l g pe ct (nI ((bkF ct).toInt.toNat - (m + 1))) k).toInt = -1 then tgS l g pe ct k wh m else (if wh.toInt = 0 then nI ((bkF ct).toInt.toNat - (m + 1)) else if wh.toInt = 1 then qBar l g pe ct (nI ((bkF ct).toInt.toNat - (m + 1))) k else qMay l g pe ct (nI ((bkF ct).toInt.toNat - (m + 1))) 0 (qBar l g pe ct (nI ((bkF ct).toInt.toNat - (m + 1))) k).toInt.toNat))
    rw [bkF_o h, zf_o h (by omega), qBar_o h hg, qMayf h hg, tgS_o h hg m]
theorem qTog_o (h : ∀ k, ¬ dIn pM k → ct2 k = ct k) (hg : ∀ n, n < 8 → ¬ (10 ≤ gix ct n ∧ gix ct n < 17)) {k wh : Int32} : qTog l g pe ct2 k wh = qTog l g pe ct k wh := by
  unfold qTog
  rw [bkF_o h, tgS_o h hg]
theorem qOdd_o (h : ∀ k, ¬ dIn pM k → ct2 k = ct k) (hg : ∀ n, n < 8 → ¬ (10 ≤ gix ct n ∧ gix ct n < 17)) {b i p kn wh : Int32} : qOdd l g pe ct2 b i p kn wh = qOdd l g pe ct b i p kn wh := by
  unfold qOdd qAbv qWays
  rw [LIN_o h, LIV_o h, lnF_o h, lvF_o h, FITf h hg]
theorem qSwp_c (h : ∀ k, ¬ dIn pM k → ct2 k = ct k) {b k wh : Int32} : qSwp l g pe ct2 b k wh = qSwp l g pe ct b k wh := by
  unfold qSwp bsF
  rw [cln_eq h]
theorem qSwW_c (h : ∀ k, ¬ dIn pM k → ct2 k = ct k) {b k wh : Int32} : qSwW l g pe ct2 b k wh = qSwW l g pe ct b k wh := by
  unfold qSwW bsF
  rw [cln_eq h]
theorem qSo_c (h : ∀ k, ¬ dIn pM k → ct2 k = ct k) {b i kn : Int32} : qSo l g pe ct2 b i kn = qSo l g pe ct b i kn := by
  unfold qSo
  rw [cln_eq h]
theorem qWf_c (h : ∀ k, ¬ dIn pM k → ct2 k = ct k) {b i kn : Int32} : qWf l g pe ct2 b i kn = qWf l g pe ct b i kn := by
  unfold qWf qWp
  rw [qSo_c h, cln_eq h]
theorem qWq_c (h : ∀ k, ¬ dIn pM k → ct2 k = ct k) {b i kn wh : Int32} : qWq l g pe ct2 b i kn wh = qWq l g pe ct b i kn wh := by
  unfold qWq
  rw [qSo_c h, qWf_c h]
theorem qSn_c (h : ∀ k, ¬ dIn pM k → ct2 k = ct k) {b i kn wh : Int32} : qSn g ct2 b i kn wh = qSn g ct b i kn wh := by
  unfold qSn
  rw [cln_eq h]
theorem qQst_c (h : ∀ k, ¬ dIn pM k → ct2 k = ct k) {b i kn wh : Int32} : qQst l g pe ct2 b i kn wh = qQst l g pe ct b i kn wh := by
  unfold qQst
  rw [qSn_c h, qSo_c h, qWf_c h, qWq_c h, cln_eq h]
theorem qQsW_c (h : ∀ k, ¬ dIn pM k → ct2 k = ct k) {b i kn wh : Int32} : ∀ q, ¬ dIn pM q → qQsW l g pe ct2 b i kn wh q = qQsW l g pe ct b i kn wh q := fun q hq => by
  unfold qQsW
  rw [qSn_c h, qSo_c h, qWf_c h, qWq_c h, cln_eq h]
  by_cases c0 : qSn g ct b i kn wh = true
  · rw [if_pos c0, if_pos c0]
    by_cases c1 : LIV (cln g ct) b i = true
    · rw [if_pos c1, if_pos c1]
      by_cases c2 : (qSo l g pe ct b i kn).toInt = 0
      · rw [if_pos c2, if_pos c2]
        exact h q hq
      · rw [if_neg c2, if_neg c2]
        by_cases c3 : eAlk l g pe (cln g ct) (qSo l g pe ct b i kn) = 1
        · rw [if_pos c3, if_pos c3]
          exact h q hq
        · rw [if_neg c3, if_neg c3]
    · rw [if_neg c1, if_neg c1]
      exact h q hq
  · rw [if_neg c0, if_neg c0]
    exact h q hq
theorem actR_o (h : ∀ k, ¬ dIn pM k → ct2 k = ct k) (hg : ∀ n, n < 8 → ¬ (10 ≤ gix ct n ∧ gix ct n < 17)) {x v : Int32} : actR l g pe ct2 x v = actR l g pe ct x v := by
  unfold actR
  rw [w_cut_c h, wSwap_c h, w_show_c h, w_link_c h, w_feed_c h, w_wish_c h, w_feed_c h, w_upper_c h, qFits_o h hg, qOdd_o h hg, qStp_o h hg, qSafe_o h hg, qFst_o h hg, qQst_c h, qSwp_c h, qTog_o h hg]
theorem actW_c (h : ∀ k, ¬ dIn pM k → ct2 k = ct k) {x v : Int32} : ∀ q, ¬ dIn pM q → actW l g pe ct2 x v q = actW l g pe ct x v q := fun q hq => by
  unfold actW
  rw [w_cut_c h, wSwap_c h, w_show_c h, w_link_c h, w_feed_c h, w_wish_c h, w_feed_c h, w_upper_c h, qSwW_c h]
  by_cases c0 : (x &&& 15).toInt = 0
  · rw [if_pos c0, if_pos c0]
  · rw [if_neg c0, if_neg c0]
    by_cases c1 : (x &&& 15).toInt = 1
    · rw [if_pos c1, if_pos c1]
    · rw [if_neg c1, if_neg c1]
      by_cases c2 : (x &&& 15).toInt = 2
      · rw [if_pos c2, if_pos c2]
      · rw [if_neg c2, if_neg c2]
        by_cases c3 : (x &&& 15).toInt = 3
        · rw [if_pos c3, if_pos c3]
        · rw [if_neg c3, if_neg c3]
          by_cases c4 : (x &&& 15).toInt = 4
          · rw [if_pos c4, if_pos c4]
          · rw [if_neg c4, if_neg c4]
            by_cases c5 : (x &&& 15).toInt = 5
            · rw [if_pos c5, if_pos c5]
            · rw [if_neg c5, if_neg c5]
              by_cases c6 : (x &&& 15).toInt = 6
              · rw [if_pos c6, if_pos c6]
                exact h q hq
              · rw [if_neg c6, if_neg c6]
                by_cases c7 : (x &&& 15).toInt = 7
                · rw [if_pos c7, if_pos c7]
                  exact h q hq
                · rw [if_neg c7, if_neg c7]
                  by_cases c8 : (x &&& 15).toInt = 8
                  · rw [if_pos c8, if_pos c8]
                    exact h q hq
                  · rw [if_neg c8, if_neg c8]
                    by_cases c9 : (x &&& 15).toInt = 9
                    · rw [if_pos c9, if_pos c9]
                      exact h q hq
                    · rw [if_neg c9, if_neg c9]
                      by_cases c10 : (x &&& 15).toInt = 10
                      · rw [if_pos c10, if_pos c10]
                        exact h q hq
                      · rw [if_neg c10, if_neg c10]
                        by_cases c11 : (x &&& 15).toInt = 11
                        · rw [if_pos c11, if_pos c11]
                          exact qQsW_c h q hq
                        · rw [if_neg c11, if_neg c11]
                          by_cases c12 : (x &&& 15).toInt = 12
                          · rw [if_pos c12, if_pos c12]
                          · rw [if_neg c12, if_neg c12]
                            by_cases c13 : (x &&& 15).toInt = 13
                            · rw [if_pos c13, if_pos c13]
                              exact h q hq
                            · rw [if_neg c13, if_neg c13]
end QO
