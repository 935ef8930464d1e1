/-! THE LAW'S LOOP -/
abbrev lwv (w : WLD) (b n : Nat) : List (Nat × Value) := [(0, .ref b), (1, .ref (wa w 0)), (2, .ref (wa w 30)), (3, .int (iZ ((n : Nat) : Int)))]
set_option maxRecDepth 100000 in
theorem lw_loop {w : WLD} {k : KX} {b L : Nat} {xs : Nat → Int32} (C : Cx w k cL_law RL room_1) (X : Scr k b L xs) (hL : L ≤ 3072) (hkL : kL k = 4) (hend : ∀ (n : Nat) (M2 : Mem), WW w k 872 (lwv w b n) [] M2) : ∀ (fuel n : Nat) (M : Mem), LAll M → n ≤ 4000 → 4000 - n < fuel → WW w k 18 (lwv w b n) [] M := by
  intro fuel
  induction fuel with
  | zero => intro n M hA hn hf; exact absurd hf (Nat.not_lt_zero _)
  | succ fuel ih =>
    intro n M hA hn4 hf
    obtain ⟨nv, np, hI⟩ := hA
    refine ww_iload_n C dL_law_18 3 rfl ?_
    refine ww_aload_n C dL_law_19 0 rfl ?_
    refine ww_slen C X dL_law_20 ?_
    refine ww_bipush C dL_law_21 (by decide) ?_
    refine ww_isub C dL_law_23 ?_
    refine ww_icmp_gt C 872 dL_law_24 (by decide) (by omega) (by omega) (fun _ => hend n M) (fun c => ?_)
    have hn : n + 6 ≤ L := by omega
    have kk : ∀ M2 : Mem, LAll M2 → WW w k 866 (lwv w b n) [] M2 := by
      intro M2 h2
      refine ww_iinc2 C dL_law_866 3 rfl (b := ((n + 6 : Nat) : Int)) (by omega) (lv' := [(3, .int (iZ ((n + 6 : Nat) : Int))), (0, .ref b), (1, .ref (wa w 0)), (2, .ref (wa w 30))]) (by rw [hkL]; decide) rfl ?_
      refine ww_goto C 18 dL_law_869 (by decide) ?_
      refine ww_sub [1, 2, 3, 0] rfl ?_
      exact ih (n + 6) M2 h2 (by omega) (by omega)
    refine ww_aload_n C dL_law_27 0 rfl ?_
    refine ww_iload_n C dL_law_28 3 rfl ?_
    refine ww_sld C X n rfl (by omega) dL_law_29 ?_
    refine ww_bipush C dL_law_30 (by decide) ?_
    refine ww_iand31 C dL_law_32 (fun j hj => ?_)
    by_cases hj2 : j < 20
    · rcases (show j = 0 ∨ j = 1 ∨ j = 2 ∨ j = 3 ∨ j = 4 ∨ j = 5 ∨ j = 6 ∨ j = 7 ∨ j = 8 ∨ j = 9 ∨ j = 10 ∨ j = 11 ∨ j = 12 ∨ j = 13 ∨ j = 14 ∨ j = 15 ∨ j = 16 ∨ j = 17 ∨ j = 18 ∨ j = 19 by omega) with e | e | e | e | e | e | e | e | e | e | e | e | e | e | e | e | e | e | e | e <;> subst e
      · exact ww_tabIn C 128 0 dL_law_33 rfl (by decide) (by decide) rfl (by decide) (lc_sizes C X hI hn kk)
      · exact ww_tabIn C 171 1 dL_law_33 rfl (by decide) (by decide) rfl (by decide) (lc_variable C X hI hn kk)
      · exact ww_tabIn C 214 2 dL_law_33 rfl (by decide) (by decide) rfl (by decide) (lc_act C X hI hn kk)
      · exact ww_tabIn C 267 3 dL_law_33 rfl (by decide) (by decide) rfl (by decide) (lc_edge C X hI hn kk)
      · exact ww_tabIn C 330 4 dL_law_33 rfl (by decide) (by decide) rfl (by decide) (lc_clear C X hI hn kk)
      · exact ww_tabIn C 341 5 dL_law_33 rfl (by decide) (by decide) rfl (by decide) (lc_lay C X hI hn kk)
      · exact ww_tabIn C 394 6 dL_law_33 rfl (by decide) (by decide) rfl (by decide) (lc_fold C X hI hn kk)
      · exact ww_tabIn C 417 7 dL_law_33 rfl (by decide) (by decide) rfl (by decide) (lc_why C X hI hn kk)
      · exact ww_tabIn C 440 8 dL_law_33 rfl (by decide) (by decide) rfl (by decide) (lc_laid C X hI hn kk)
      · exact ww_tabIn C 463 9 dL_law_33 rfl (by decide) (by decide) rfl (by decide) (lc_where C X hI hn kk)
      · exact ww_tabIn C 516 10 dL_law_33 rfl (by decide) (by decide) rfl (by decide) (lc_needs C X hI hn kk)
      · refine ww_tabIn C 549 11 dL_law_33 rfl (by decide) (by decide) rfl (by decide) ?_
        by_cases e1 : sx xs (n + 1) = 1 ∧ sx xs (n + 2) = 1
        · exact lc_best_11 C X hI hn e1.1 e1.2 kk
        by_cases e2 : sx xs (n + 1) = 1 ∧ sx xs (n + 2) = 2
        · exact lc_best_12 C X hI hn e2.1 e2.2 kk
        by_cases e3 : sx xs (n + 1) = 2 ∧ sx xs (n + 2) = 1
        · exact lc_best_21 C X hI hn e3.1 e3.2 kk
        exact lc_best_0 C X hI hn (by omega) kk
      · exact ww_tabIn C 582 12 dL_law_33 rfl (by decide) (by decide) rfl (by decide) (lc_laying C X hI hn kk)
      · exact ww_tabIn C 615 13 dL_law_33 rfl (by decide) (by decide) rfl (by decide) (lc_run C X hI hn kk)
      · exact ww_tabIn C 628 14 dL_law_33 rfl (by decide) (by decide) rfl (by decide) (lc_worked C X hI hn kk)
      · exact ww_tabIn C 671 15 dL_law_33 rfl (by decide) (by decide) rfl (by decide) (lc_held C X hI hn kk)
      · exact ww_tabIn C 694 16 dL_law_33 rfl (by decide) (by decide) rfl (by decide) (lc_value C X hI hn kk)
      · exact ww_tabIn C 747 17 dL_law_33 rfl (by decide) (by decide) rfl (by decide) (lc_plain C X hI hn kk)
      · exact ww_tabIn C 800 18 dL_law_33 rfl (by decide) (by decide) rfl (by decide) (lc_result C X hI hn kk)
      · exact ww_tabIn C 843 19 dL_law_33 rfl (by decide) (by decide) rfl (by decide) (lc_about C X hI hn kk)
    · refine ww_tabOut C 866 dL_law_33 (by omega) (by omega) (by decide) ?_
      exact kk M ⟨nv, np, hI⟩
