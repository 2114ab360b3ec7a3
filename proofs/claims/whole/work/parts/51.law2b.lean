set_option maxHeartbeats 4000000 in
set_option maxRecDepth 100000 in
theorem k_law_save {E : kx_E} {n mc ms k j i S N : Nat} {xs : Nat → Int32} {a b : kW} {Q : kx_Q} (hS : kx_S E S N xs) (hN3 : N ≤ 3072) (hi : i + 6 ≤ N) (hI : Inv a b) (hN : ∀ a' b' n', Inv a' b' → kx_V E i_W_law 12 mc ms Q k j 968 [(4, .int (nI i)), (3, .ref 78), (2, .ref 61), (1, .ref 0), (0, .retAddr S)] [] n' (wd (wx a' b'))) : kx_V E i_W_law 12 mc ms Q (k + 5) (j + 30) 376 [(4, .int (nI i)), (3, .ref 78), (2, .ref 61), (1, .ref 0), (0, .retAddr S)] [] n (wd (wx a b)) := by
  obtain ⟨sz, du, hL, hP, hSb⟩ := id hI
  obtain ⟨v1, v2, v3, v4, v5, v6⟩ := id hL.1
  have hsh : (∃ x, (s_save a (xs (i + 1))).1 = Sum.inl (some (.int x))) ∨ (s_save a (xs (i + 1))).1 = Sum.inr "java/lang/IllegalArgumentException" := by
    rcases (R_save hI (xs (i + 1))).2.2 with ⟨e1, -⟩ | ⟨X, c, e1, e2, -, -⟩
    · exact Or.inl ⟨_, e1⟩
    · exact Or.inr (by rw [e1, sh_cI e2])
  have w3 : (w_b (s_save a (xs (i + 1))).1 b).2.2 61 1 = nI sz := (hL.wb (r := (s_save a (xs (i + 1))).1)).1.2.2.1
  have hR := R_save (hI.wb (r := (s_save a (xs (i + 1))).1)) (xs (i + 1))
  refine kx_aload_n (pc := 376) d_W_law_376 rfl ?_
  refine kx_aload_s (pc := 377) d_W_law_377 rfl ?_
  refine kx_iload (pc := 378) d_W_law_378 rfl ?_
  refine kx_iconst (pc := 380) (x := 1) d_W_law_380 (by decide) ?_
  refine kx_iadd (pc := 381) d_W_law_381 ?_
  refine kx_eqi (show nI i + 1 = nI (i + 1) from nI_add i 1) ?_
  refine kx_siald (pc := 382) hS d_W_law_382 ⟨rfl, by omega, by omega⟩ ?_
  refine kx_aload_n (pc := 383) d_W_law_383 rfl ?_
  refine kx_invS (pc := 384) (as := [.ref _, .int _, .ref _]) (st := []) (k := k) (j := j) d_W_law_384 ws_W_82 (k_W_save k_save hsh) rfl rfl (Nat.le_of_ble_eq_true rfl) (by decide) (Nat.le_of_ble_eq_true rfl) (fun rv n' h' hq => ?_) (fun X n' h' hq => nomatch hq.1)
  obtain ⟨hq, rfl⟩ := hq
  cases hq
  refine kx_istore (pc := 387) (lv' := [(5, _), (4, _), (3, _), (2, _), (1, _), (0, _)]) d_W_law_387 (by decide) rfl ?_
  refine kx_aload_n (pc := 389) d_W_law_389 rfl ?_
  refine kx_aload_s (pc := 390) d_W_law_390 rfl ?_
  refine kx_iload (pc := 391) d_W_law_391 rfl ?_
  refine kx_iconst (pc := 393) (x := 1) d_W_law_393 (by decide) ?_
  refine kx_iadd (pc := 394) d_W_law_394 ?_
  refine kx_eqi (show nI i + 1 = nI (i + 1) from nI_add i 1) ?_
  refine kx_siald (pc := 395) hS d_W_law_395 ⟨rfl, by omega, by omega⟩ ?_
  refine kx_invV (pc := 396) (as := [.int _]) (st := []) (k := k) (j := j) d_W_law_396 wv_W_85 (wd_o rfl) (k_msave (a := (s_save a (xs (i + 1))).2) (b := (w_b (s_save a (xs (i + 1))).1 b))) rfl rfl (Nat.le_of_ble_eq_true rfl) (by decide) (Nat.le_of_ble_eq_true rfl) (fun rv n' h' hq => ?_) (fun X n' h' hq => nomatch hq.1)
  obtain ⟨hq, rfl⟩ := hq
  cases hq
  refine kx_istore (pc := 399) (lv' := [(6, _), (5, _), (4, _), (3, _), (2, _), (1, _), (0, _)]) d_W_law_399 (by decide) rfl ?_
  refine kx_aload_n (pc := 401) d_W_law_401 rfl ?_
  refine kx_invV (pc := 402) (as := []) (st := []) (k := k) (j := j) d_W_law_402 wv_W_70 (wd_o rfl) (k_thrown (a := (s_save a (xs (i + 1))).2) (b := (m_save (w_b (s_save a (xs (i + 1))).1 b) (xs (i + 1))).2)) rfl rfl (Nat.le_of_ble_eq_true rfl) (by decide) (Nat.le_of_ble_eq_true rfl) (fun rv n' h' hq => ?_) (fun X n' h' hq => nomatch hq.2)
  obtain ⟨rfl, hq⟩ := hq
  cases hq
  refine kx_iload (pc := 405) d_W_law_405 rfl ?_
  refine kx_icmp_eq (pc := 407) (tgt := 412) d_W_law_407 (by decide) (fun _ => ?_) (fun hz => absurd hR.code hz)
  refine kx_iload (pc := 412) d_W_law_412 rfl ?_
  refine kx_if_ne (pc := 414) (tgt := 429) d_W_law_414 (by decide) (fun hne => ?_) (fun h0 => ?_)
  · refine kx_goto (pc := 429) (tgt := 968) d_W_law_429 (by decide) ?_
    refine kx_sub [2, 3, 4, 5, 6] rfl ?_
    exact hN _ _ _ hR.1
  · refine kx_aload_n (pc := 417) d_W_law_417 rfl ?_
    refine kx_iconst (pc := 418) (x := 0) d_W_law_418 (by decide) ?_
    refine km_lald (pc := 419) d_W_law_419 (by decide) rfl ⟨rfl, by decide, by decide⟩ ?_
    refine kx_eql (hR.val h0) ?_
    refine kx_iload (pc := 420) d_W_law_420 rfl ?_
    refine kx_i2l (pc := 422) d_W_law_422 ?_
    refine kx_lcmp (pc := 423) d_W_law_423 ?_
    refine kx_if_eq (pc := 424) (tgt := 429) d_W_law_424 (by decide) (fun _ => ?_) (fun hz => absurd ((lg_cmp_eq _ _).mpr rfl) hz)
    refine kx_goto (pc := 429) (tgt := 968) d_W_law_429 (by decide) ?_
    refine kx_sub [2, 3, 4, 5, 6] rfl ?_
    exact hN _ _ _ hR.1
set_option maxHeartbeats 4000000 in
set_option maxRecDepth 100000 in
theorem k_law_cell {E : kx_E} {n mc ms k j i S N : Nat} {xs : Nat → Int32} {a b : kW} {Q : kx_Q} (hS : kx_S E S N xs) (hN3 : N ≤ 3072) (hi : i + 6 ≤ N) (hI : Inv a b) (hN : ∀ a' b' n', Inv a' b' → kx_V E i_W_law 12 mc ms Q k j 968 [(4, .int (nI i)), (3, .ref 78), (2, .ref 61), (1, .ref 0), (0, .retAddr S)] [] n' (wd (wx a' b'))) : kx_V E i_W_law 12 mc ms Q (k + 5) (j + 30) 432 [(4, .int (nI i)), (3, .ref 78), (2, .ref 61), (1, .ref 0), (0, .retAddr S)] [] n (wd (wx a b)) := by
  obtain ⟨sz, du, hL, hP, hSb⟩ := id hI
  obtain ⟨v1, v2, v3, v4, v5, v6⟩ := id hL.1
  have hsh : (∃ x, (s_cell a (xs (i + 1)) (xs (i + 2))).1 = Sum.inl (some (.long x))) ∨ (s_cell a (xs (i + 1)) (xs (i + 2))).1 = Sum.inr "java/lang/IllegalArgumentException" ∨ (s_cell a (xs (i + 1)) (xs (i + 2))).1 = Sum.inr "java/lang/IndexOutOfBoundsException" := by
    rcases (R_cell hI (xs (i + 1)) (xs (i + 2))).2.2 with ⟨e1, -⟩ | ⟨X, c, e1, e2, -, -⟩
    · exact Or.inl ⟨_, e1⟩
    · exact Or.inr ((sh_cIO e2).elim (fun y => Or.inl (by rw [e1, y])) (fun y => Or.inr (by rw [e1, y])))
  have w3 : (w_b (s_cell a (xs (i + 1)) (xs (i + 2))).1 b).2.2 61 1 = nI sz := (hL.wb (r := (s_cell a (xs (i + 1)) (xs (i + 2))).1)).1.2.2.1
  have hR := R_cell (hI.wb (r := (s_cell a (xs (i + 1)) (xs (i + 2))).1)) (xs (i + 1)) (xs (i + 2))
  refine kx_aload_n (pc := 432) d_W_law_432 rfl ?_
  refine kx_aload_s (pc := 433) d_W_law_433 rfl ?_
  refine kx_iload (pc := 434) d_W_law_434 rfl ?_
  refine kx_iconst (pc := 436) (x := 1) d_W_law_436 (by decide) ?_
  refine kx_iadd (pc := 437) d_W_law_437 ?_
  refine kx_eqi (show nI i + 1 = nI (i + 1) from nI_add i 1) ?_
  refine kx_siald (pc := 438) hS d_W_law_438 ⟨rfl, by omega, by omega⟩ ?_
  refine kx_aload_s (pc := 439) d_W_law_439 rfl ?_
  refine kx_iload (pc := 440) d_W_law_440 rfl ?_
  refine kx_iconst (pc := 442) (x := 2) d_W_law_442 (by decide) ?_
  refine kx_iadd (pc := 443) d_W_law_443 ?_
  refine kx_eqi (show nI i + 2 = nI (i + 2) from nI_add i 2) ?_
  refine kx_siald (pc := 444) hS d_W_law_444 ⟨rfl, by omega, by omega⟩ ?_
  refine kx_aload_n (pc := 445) d_W_law_445 rfl ?_
  refine kx_invS (pc := 446) (as := [.ref _, .int _, .int _, .ref _]) (st := []) (k := k) (j := j) d_W_law_446 ws_W_86 (k_W_cell k_cell hsh) rfl rfl (Nat.le_of_ble_eq_true rfl) (by decide) (Nat.le_of_ble_eq_true rfl) (fun rv n' h' hq => ?_) (fun X n' h' hq => nomatch hq.1)
  obtain ⟨hq, rfl⟩ := hq
  cases hq
  refine kx_istore (pc := 449) (lv' := [(5, _), (4, _), (3, _), (2, _), (1, _), (0, _)]) d_W_law_449 (by decide) rfl ?_
  refine kx_aload_n (pc := 451) d_W_law_451 rfl ?_
  refine kx_aload_s (pc := 452) d_W_law_452 rfl ?_
  refine kx_iload (pc := 453) d_W_law_453 rfl ?_
  refine kx_iconst (pc := 455) (x := 1) d_W_law_455 (by decide) ?_
  refine kx_iadd (pc := 456) d_W_law_456 ?_
  refine kx_eqi (show nI i + 1 = nI (i + 1) from nI_add i 1) ?_
  refine kx_siald (pc := 457) hS d_W_law_457 ⟨rfl, by omega, by omega⟩ ?_
  refine kx_aload_s (pc := 458) d_W_law_458 rfl ?_
  refine kx_iload (pc := 459) d_W_law_459 rfl ?_
  refine kx_iconst (pc := 461) (x := 2) d_W_law_461 (by decide) ?_
  refine kx_iadd (pc := 462) d_W_law_462 ?_
  refine kx_eqi (show nI i + 2 = nI (i + 2) from nI_add i 2) ?_
  refine kx_siald (pc := 463) hS d_W_law_463 ⟨rfl, by omega, by omega⟩ ?_
  refine kx_invV (pc := 464) (as := [.int _, .int _]) (st := []) (k := k) (j := j) d_W_law_464 wv_W_88 (wd_o rfl) (k_mcell (a := (s_cell a (xs (i + 1)) (xs (i + 2))).2) (b := (w_b (s_cell a (xs (i + 1)) (xs (i + 2))).1 b))) rfl rfl (Nat.le_of_ble_eq_true rfl) (by decide) (Nat.le_of_ble_eq_true rfl) (fun rv n' h' hq => ?_) (fun X n' h' hq => nomatch hq.1)
  obtain ⟨hq, rfl⟩ := hq
  cases hq
  refine kx_lstore (pc := 467) (lv' := [(6, _), (5, _), (4, _), (3, _), (2, _), (1, _), (0, _)]) d_W_law_467 (by decide) rfl ?_
  refine kx_aload_n (pc := 469) d_W_law_469 rfl ?_
  refine kx_invV (pc := 470) (as := []) (st := []) (k := k) (j := j) d_W_law_470 wv_W_70 (wd_o rfl) (k_thrown (a := (s_cell a (xs (i + 1)) (xs (i + 2))).2) (b := (m_cell (w_b (s_cell a (xs (i + 1)) (xs (i + 2))).1 b) (xs (i + 1)) (xs (i + 2))).2)) rfl rfl (Nat.le_of_ble_eq_true rfl) (by decide) (Nat.le_of_ble_eq_true rfl) (fun rv n' h' hq => ?_) (fun X n' h' hq => nomatch hq.2)
  obtain ⟨rfl, hq⟩ := hq
  cases hq
  refine kx_iload (pc := 473) d_W_law_473 rfl ?_
  refine kx_icmp_eq (pc := 475) (tgt := 480) d_W_law_475 (by decide) (fun _ => ?_) (fun hz => absurd hR.code hz)
  refine kx_iload (pc := 480) d_W_law_480 rfl ?_
  refine kx_if_ne (pc := 482) (tgt := 496) d_W_law_482 (by decide) (fun hne => ?_) (fun h0 => ?_)
  · refine kx_goto (pc := 496) (tgt := 968) d_W_law_496 (by decide) ?_
    refine kx_sub [2, 3, 4, 5, 6] rfl ?_
    exact hN _ _ _ hR.1
  · refine kx_aload_n (pc := 485) d_W_law_485 rfl ?_
    refine kx_iconst (pc := 486) (x := 0) d_W_law_486 (by decide) ?_
    refine km_lald (pc := 487) d_W_law_487 (by decide) rfl ⟨rfl, by decide, by decide⟩ ?_
    refine kx_eql (hR.val h0) ?_
    refine kx_lload (pc := 488) d_W_law_488 rfl ?_
    refine kx_lcmp (pc := 490) d_W_law_490 ?_
    refine kx_if_eq (pc := 491) (tgt := 496) d_W_law_491 (by decide) (fun _ => ?_) (fun hz => absurd ((lg_cmp_eq _ _).mpr rfl) hz)
    refine kx_goto (pc := 496) (tgt := 968) d_W_law_496 (by decide) ?_
    refine kx_sub [2, 3, 4, 5, 6] rfl ?_
    exact hN _ _ _ hR.1
set_option maxHeartbeats 4000000 in
set_option maxRecDepth 100000 in
theorem k_law_filter {E : kx_E} {n mc ms k j i S N : Nat} {xs : Nat → Int32} {a b : kW} {Q : kx_Q} (hS : kx_S E S N xs) (hN3 : N ≤ 3072) (hi : i + 6 ≤ N) (hI : Inv a b) (hN : ∀ a' b' n', Inv a' b' → kx_V E i_W_law 12 mc ms Q k j 968 [(4, .int (nI i)), (3, .ref 78), (2, .ref 61), (1, .ref 0), (0, .retAddr S)] [] n' (wd (wx a' b'))) : kx_V E i_W_law 12 mc ms Q (k + 5) (j + 30) 499 [(4, .int (nI i)), (3, .ref 78), (2, .ref 61), (1, .ref 0), (0, .retAddr S)] [] n (wd (wx a b)) := by
  obtain ⟨sz, du, hL, hP, hSb⟩ := id hI
  obtain ⟨v1, v2, v3, v4, v5, v6⟩ := id hL.1
  have hsh : ((s_filter a (xs (i + 1)) (xs (i + 2)) (xs (i + 3))).1 = Sum.inl none) ∨ (s_filter a (xs (i + 1)) (xs (i + 2)) (xs (i + 3))).1 = Sum.inr "java/lang/IllegalArgumentException" := by
    rcases (R_filter hI (xs (i + 1)) (xs (i + 2)) (xs (i + 3))).2.2 with ⟨e1, -⟩ | ⟨X, c, e1, e2, -, -⟩
    · exact Or.inl e1
    · exact Or.inr (by rw [e1, sh_cI e2])
  have w3 : (w_b (s_filter a (xs (i + 1)) (xs (i + 2)) (xs (i + 3))).1 b).2.2 61 1 = nI sz := (hL.wb (r := (s_filter a (xs (i + 1)) (xs (i + 2)) (xs (i + 3))).1)).1.2.2.1
  have hR := R_filter (hI.wb (r := (s_filter a (xs (i + 1)) (xs (i + 2)) (xs (i + 3))).1)) (xs (i + 1)) (xs (i + 2)) (xs (i + 3))
  refine kx_aload_n (pc := 499) d_W_law_499 rfl ?_
  refine kx_aload_s (pc := 500) d_W_law_500 rfl ?_
  refine kx_iload (pc := 501) d_W_law_501 rfl ?_
  refine kx_iconst (pc := 503) (x := 1) d_W_law_503 (by decide) ?_
  refine kx_iadd (pc := 504) d_W_law_504 ?_
  refine kx_eqi (show nI i + 1 = nI (i + 1) from nI_add i 1) ?_
  refine kx_siald (pc := 505) hS d_W_law_505 ⟨rfl, by omega, by omega⟩ ?_
  refine kx_aload_s (pc := 506) d_W_law_506 rfl ?_
  refine kx_iload (pc := 507) d_W_law_507 rfl ?_
  refine kx_iconst (pc := 509) (x := 2) d_W_law_509 (by decide) ?_
  refine kx_iadd (pc := 510) d_W_law_510 ?_
  refine kx_eqi (show nI i + 2 = nI (i + 2) from nI_add i 2) ?_
  refine kx_siald (pc := 511) hS d_W_law_511 ⟨rfl, by omega, by omega⟩ ?_
  refine kx_aload_s (pc := 512) d_W_law_512 rfl ?_
  refine kx_iload (pc := 513) d_W_law_513 rfl ?_
  refine kx_iconst (pc := 515) (x := 3) d_W_law_515 (by decide) ?_
  refine kx_iadd (pc := 516) d_W_law_516 ?_
  refine kx_eqi (show nI i + 3 = nI (i + 3) from nI_add i 3) ?_
  refine kx_siald (pc := 517) hS d_W_law_517 ⟨rfl, by omega, by omega⟩ ?_
  refine kx_invS (pc := 518) (as := [.ref _, .int _, .int _, .int _]) (st := []) (k := k) (j := j) d_W_law_518 ws_W_89 (k_W_filter k_filter hsh) rfl rfl (Nat.le_of_ble_eq_true rfl) (by decide) (Nat.le_of_ble_eq_true rfl) (fun rv n' h' hq => ?_) (fun X n' h' hq => nomatch hq.1)
  obtain ⟨hq, rfl⟩ := hq
  cases hq
  refine kx_istore (pc := 521) (lv' := [(5, _), (4, _), (3, _), (2, _), (1, _), (0, _)]) d_W_law_521 (by decide) rfl ?_
  refine kx_aload_n (pc := 523) d_W_law_523 rfl ?_
  refine kx_aload_s (pc := 524) d_W_law_524 rfl ?_
  refine kx_iload (pc := 525) d_W_law_525 rfl ?_
  refine kx_iconst (pc := 527) (x := 1) d_W_law_527 (by decide) ?_
  refine kx_iadd (pc := 528) d_W_law_528 ?_
  refine kx_eqi (show nI i + 1 = nI (i + 1) from nI_add i 1) ?_
  refine kx_siald (pc := 529) hS d_W_law_529 ⟨rfl, by omega, by omega⟩ ?_
  refine kx_aload_s (pc := 530) d_W_law_530 rfl ?_
  refine kx_iload (pc := 531) d_W_law_531 rfl ?_
  refine kx_iconst (pc := 533) (x := 2) d_W_law_533 (by decide) ?_
  refine kx_iadd (pc := 534) d_W_law_534 ?_
  refine kx_eqi (show nI i + 2 = nI (i + 2) from nI_add i 2) ?_
  refine kx_siald (pc := 535) hS d_W_law_535 ⟨rfl, by omega, by omega⟩ ?_
  refine kx_aload_s (pc := 536) d_W_law_536 rfl ?_
  refine kx_iload (pc := 537) d_W_law_537 rfl ?_
  refine kx_iconst (pc := 539) (x := 3) d_W_law_539 (by decide) ?_
  refine kx_iadd (pc := 540) d_W_law_540 ?_
  refine kx_eqi (show nI i + 3 = nI (i + 3) from nI_add i 3) ?_
  refine kx_siald (pc := 541) hS d_W_law_541 ⟨rfl, by omega, by omega⟩ ?_
  refine kx_invV (pc := 542) (as := [.int _, .int _, .int _]) (st := []) (k := k) (j := j) d_W_law_542 wv_W_92 (wd_o rfl) (k_mfilter (a := (s_filter a (xs (i + 1)) (xs (i + 2)) (xs (i + 3))).2) (b := (w_b (s_filter a (xs (i + 1)) (xs (i + 2)) (xs (i + 3))).1 b))) rfl rfl (Nat.le_of_ble_eq_true rfl) (by decide) (Nat.le_of_ble_eq_true rfl) (fun rv n' h' hq => ?_) (fun X n' h' hq => nomatch hq.1)
  obtain ⟨hq, rfl⟩ := hq
  cases hq
  refine kx_aload_n (pc := 545) d_W_law_545 rfl ?_
  refine kx_invV (pc := 546) (as := []) (st := []) (k := k) (j := j) d_W_law_546 wv_W_70 (wd_o rfl) (k_thrown (a := (s_filter a (xs (i + 1)) (xs (i + 2)) (xs (i + 3))).2) (b := (m_filter (w_b (s_filter a (xs (i + 1)) (xs (i + 2)) (xs (i + 3))).1 b) (xs (i + 1)) (xs (i + 2)) (xs (i + 3))))) rfl rfl (Nat.le_of_ble_eq_true rfl) (by decide) (Nat.le_of_ble_eq_true rfl) (fun rv n' h' hq => ?_) (fun X n' h' hq => nomatch hq.2)
  obtain ⟨rfl, hq⟩ := hq
  cases hq
  refine kx_iload (pc := 549) d_W_law_549 rfl ?_
  refine kx_icmp_eq (pc := 551) (tgt := 556) d_W_law_551 (by decide) (fun _ => ?_) (fun hz => absurd hR.code hz)
  refine kx_goto (pc := 556) (tgt := 968) d_W_law_556 (by decide) ?_
  refine kx_sub [1, 2, 3, 4, 5] rfl ?_
  exact hN _ _ _ hR.1
