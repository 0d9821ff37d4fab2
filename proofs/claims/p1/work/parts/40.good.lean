/-! THE WHOLE PROGRAM IS KNOWN -/
def zmc (M : zM) : Bool := decide ((zName M).cls ≠ "java/lang/invoke/MethodHandle") && (decide ((zName M).cls ≠ "java/lang/invoke/VarHandle") && (plainName (zName M).cls && (zTab M).isEmpty || (plainName (zName M).cls && Nat.beq (zKind M).1 1)))
theorem zmc_ok {M : zM} (h : zmc M = true) : ((zName M).cls ≠ "java/lang/invoke/MethodHandle" ∧ (zName M).cls ≠ "java/lang/invoke/VarHandle") ∧ plainName (zName M).cls = true ∧ ((zKind M).1 ≠ 1 → zTab M = []) := by
  unfold zmc at h
  rw [Bool.and_eq_true, Bool.and_eq_true, decide_eq_true_eq, decide_eq_true_eq, Bool.or_eq_true, Bool.and_eq_true, Bool.and_eq_true] at h
  obtain ⟨h1, h2, h3⟩ := h
  refine ⟨⟨h1, h2⟩, h3.elim (fun q => q.1) (fun q => q.1), fun hk => ?_⟩
  rcases h3 with q | q
  · exact List.isEmpty_iff.mp q.2
  · exact absurd (Nat.eq_of_beq_eq_true q.2) hk
def zgh (M : zM) : Bool := goodWord (zHd M)
theorem zgh_ok (M : zM) : goodWord (zHd M) = true := by
  unfold zHd
  split <;> rfl
/-- a method of an object -/
theorem zMok_v {M : zM} (pc pi pk ps : Nat) (h1 : lw_tbl[pc]? = some (zHd M)) (h2 : lw_tbl[pi]? = some (.initialized (zName M).cls)) (h3 : lw_tbl[pk]? = some (.instanceMethod (zName M))) (h4 : lw_tbl[ps]? = some (.selects (zName M).cls (zName M) (zName M))) (hb : (zmc M && (Nat.beq (zKind M).1 0 && (match vwCl[(zKind M).2.1]? with | some q => decide (q.1 = (zName M).cls) | none => false))) = true) : zMok zTs vwCl M := by
  rw [Bool.and_eq_true, Bool.and_eq_true] at hb
  obtain ⟨b1, b2, b3⟩ := hb
  obtain ⟨g1, g2, g3⟩ := zmc_ok b1
  have k0 := Nat.eq_of_beq_eq_true b2
  refine ⟨zTs_at pc h1 (zgh_ok M), zTs_at pi h2 rfl, g1, g2, fun _ => ⟨zTs_at pk h3 rfl, zTs_at ps h4 rfl, ?_, g3 (by rw [k0]; decide)⟩, fun h => absurd (k0.symm.trans h) (by decide), fun h => absurd (k0.symm.trans h) (by decide)⟩
  cases hq : vwCl[(zKind M).2.1]? with
  | none => rw [hq] at b3; cases b3
  | some q => rw [hq] at b3; exact ⟨q, rfl, of_decide_eq_true b3⟩
/-- a static one -/
theorem zMok_s {M : zM} (pc pi pk : Nat) (h1 : lw_tbl[pc]? = some (zHd M)) (h2 : lw_tbl[pi]? = some (.initialized (zName M).cls)) (h3 : lw_tbl[pk]? = some (.static (zName M))) (hb : (zmc M && Nat.beq (zKind M).1 1) = true) : zMok zTs vwCl M := by
  rw [Bool.and_eq_true] at hb
  obtain ⟨b1, b2⟩ := hb
  obtain ⟨g1, g2, g3⟩ := zmc_ok b1
  have k0 := Nat.eq_of_beq_eq_true b2
  exact ⟨zTs_at pc h1 (zgh_ok M), zTs_at pi h2 rfl, g1, g2, fun h => absurd (k0.symm.trans h) (by decide), fun _ => zTs_at pk h3 rfl, fun h => absurd (k0.symm.trans h) (by decide)⟩
/-- a constructor -/
theorem zMok_i {M : zM} (pc pi pk : Nat) (h1 : lw_tbl[pc]? = some (zHd M)) (h2 : lw_tbl[pi]? = some (.initialized (zName M).cls)) (h3 : lw_tbl[pk]? = some (.instanceMethod (zName M))) (hb : (zmc M && (Nat.beq (zKind M).1 2 && (decide ((zName M).name = "<init>") && (zRet M).isNone))) = true) : zMok zTs vwCl M := by
  rw [Bool.and_eq_true, Bool.and_eq_true, Bool.and_eq_true, decide_eq_true_eq] at hb
  obtain ⟨b1, b2, b3, b4⟩ := hb
  obtain ⟨g1, g2, g3⟩ := zmc_ok b1
  have k0 := Nat.eq_of_beq_eq_true b2
  exact ⟨zTs_at pc h1 (zgh_ok M), zTs_at pi h2 rfl, g1, g2, fun h => absurd (k0.symm.trans h) (by decide), fun h => absurd (k0.symm.trans h) (by decide), fun _ => ⟨zTs_at pk h3 rfl, b3, Option.isNone_iff_eq_none.mp b4, g3 (by rw [k0]; decide)⟩⟩

set_option maxRecDepth 100000 in
theorem zo_0 : zMok zTs vwCl zm_0 := zMok_i 90 61 89 rfl rfl rfl (by decide +kernel)
set_option maxRecDepth 100000 in
theorem zo_1 : zMok zTs vwCl zm_1 := zMok_i 144 63 143 rfl rfl rfl (by decide +kernel)
set_option maxRecDepth 100000 in
theorem zo_2 : zMok zTs vwCl zm_2 := zMok_i 167 64 166 rfl rfl rfl (by decide +kernel)
set_option maxRecDepth 100000 in
theorem zo_3 : zMok zTs vwCl zm_3 := zMok_i 138 62 137 rfl rfl rfl (by decide +kernel)
set_option maxRecDepth 100000 in
theorem zo_4 : zMok zTs vwCl zm_4 := zMok_i 255 66 254 rfl rfl rfl (by decide +kernel)
set_option maxRecDepth 100000 in
theorem zo_5 : zMok zTs vwCl zm_5 := zMok_i 249 65 248 rfl rfl rfl (by decide +kernel)
set_option maxRecDepth 100000 in
theorem zo_6 : zMok zTs vwCl zm_6 := zMok_i 309 67 308 rfl rfl rfl (by decide +kernel)
set_option maxRecDepth 100000 in
theorem zo_7 : zMok zTs vwCl zm_7 := zMok_i 321 68 320 rfl rfl rfl (by decide +kernel)
set_option maxRecDepth 100000 in
theorem zo_8 : zMok zTs vwCl zm_8 := zMok_i 338 69 337 rfl rfl rfl (by decide +kernel)
set_option maxRecDepth 100000 in
theorem zo_9 : zMok zTs vwCl zm_9 := zMok_i 351 70 350 rfl rfl rfl (by decide +kernel)
set_option maxRecDepth 100000 in
theorem zo_10 : zMok zTs vwCl zm_10 := zMok_i 82 60 81 rfl rfl rfl (by decide +kernel)
set_option maxRecDepth 100000 in
theorem zo_11 : zMok zTs vwCl zm_11 := zMok_i 1033 71 1032 rfl rfl rfl (by decide +kernel)
set_option maxRecDepth 100000 in
theorem zo_12 : zMok zTs vwCl zm_12 := zMok_s 397 60 396 rfl rfl rfl (by decide +kernel)
set_option maxRecDepth 100000 in
theorem zo_13 : zMok zTs vwCl zm_13 := zMok_s 408 60 407 rfl rfl rfl (by decide +kernel)
set_option maxRecDepth 100000 in
theorem zo_14 : zMok zTs vwCl zm_14 := zMok_v 474 61 472 473 rfl rfl rfl rfl (by decide +kernel)
set_option maxRecDepth 100000 in
theorem zo_15 : zMok zTs vwCl zm_15 := zMok_v 478 61 476 477 rfl rfl rfl rfl (by decide +kernel)
set_option maxRecDepth 100000 in
theorem zo_16 : zMok zTs vwCl zm_16 := zMok_v 486 63 484 485 rfl rfl rfl rfl (by decide +kernel)
set_option maxRecDepth 100000 in
theorem zo_17 : zMok zTs vwCl zm_17 := zMok_v 482 62 480 481 rfl rfl rfl rfl (by decide +kernel)
set_option maxRecDepth 100000 in
theorem zo_18 : zMok zTs vwCl zm_18 := zMok_v 405 60 403 404 rfl rfl rfl rfl (by decide +kernel)
set_option maxRecDepth 100000 in
theorem zo_19 : zMok zTs vwCl zm_19 := zMok_s 400 59 399 rfl rfl rfl (by decide +kernel)
set_option maxRecDepth 100000 in
theorem zo_20 : zMok zTs vwCl zm_20 := zMok_s 1172 71 1171 rfl rfl rfl (by decide +kernel)
set_option maxRecDepth 100000 in
theorem zo_21 : zMok zTs vwCl zm_21 := zMok_v 1176 71 1175 19 rfl rfl rfl rfl (by decide +kernel)
set_option maxRecDepth 100000 in
theorem zo_22 : zMok zTs vwCl zm_22 := zMok_v 1180 71 1179 20 rfl rfl rfl rfl (by decide +kernel)
set_option maxRecDepth 100000 in
theorem zo_23 : zMok zTs vwCl zm_23 := zMok_v 1169 71 1167 1168 rfl rfl rfl rfl (by decide +kernel)
set_option maxRecDepth 100000 in
theorem zo_24 : zMok zTs vwCl zm_24 := zMok_v 1165 71 1163 1164 rfl rfl rfl rfl (by decide +kernel)
set_option maxRecDepth 100000 in
theorem zo_25 : zMok zTs vwCl zm_25 := zMok_s 497 60 496 rfl rfl rfl (by decide +kernel)
set_option maxRecDepth 100000 in
theorem zo_26 : zMok zTs vwCl zm_26 := zMok_s 504 60 503 rfl rfl rfl (by decide +kernel)
set_option maxRecDepth 100000 in
theorem zo_27 : zMok zTs vwCl zm_27 := zMok_v 501 60 500 1 rfl rfl rfl rfl (by decide +kernel)
set_option maxRecDepth 100000 in
theorem zo_28 : zMok zTs vwCl zm_28 := zMok_v 523 65 521 522 rfl rfl rfl rfl (by decide +kernel)
set_option maxRecDepth 100000 in
theorem zo_29 : zMok zTs vwCl zm_29 := zMok_v 531 61 529 530 rfl rfl rfl rfl (by decide +kernel)
set_option maxRecDepth 100000 in
theorem zo_30 : zMok zTs vwCl zm_30 := zMok_s 542 61 541 rfl rfl rfl (by decide +kernel)
set_option maxRecDepth 100000 in
theorem zo_31 : zMok zTs vwCl zm_31 := zMok_v 539 61 537 538 rfl rfl rfl rfl (by decide +kernel)
set_option maxRecDepth 100000 in
theorem zo_32 : zMok zTs vwCl zm_32 := zMok_v 535 61 533 534 rfl rfl rfl rfl (by decide +kernel)
set_option maxRecDepth 100000 in
theorem zo_33 : zMok zTs vwCl zm_33 := zMok_v 550 61 548 549 rfl rfl rfl rfl (by decide +kernel)
set_option maxRecDepth 100000 in
theorem zo_34 : zMok zTs vwCl zm_34 := zMok_s 553 61 552 rfl rfl rfl (by decide +kernel)
set_option maxRecDepth 100000 in
theorem zo_35 : zMok zTs vwCl zm_35 := zMok_v 546 61 544 545 rfl rfl rfl rfl (by decide +kernel)
set_option maxRecDepth 100000 in
theorem zo_36 : zMok zTs vwCl zm_36 := zMok_v 527 61 525 526 rfl rfl rfl rfl (by decide +kernel)
set_option maxRecDepth 100000 in
theorem zo_37 : zMok zTs vwCl zm_37 := zMok_v 494 60 492 493 rfl rfl rfl rfl (by decide +kernel)
set_option maxRecDepth 100000 in
theorem zo_38 : zMok zTs vwCl zm_38 := zMok_s 489 59 488 rfl rfl rfl (by decide +kernel)
set_option maxRecDepth 100000 in
theorem zo_39 : zMok zTs vwCl zm_39 := zMok_v 1192 71 1191 22 rfl rfl rfl rfl (by decide +kernel)
set_option maxRecDepth 100000 in
theorem zo_40 : zMok zTs vwCl zm_40 := zMok_v 1188 71 1187 21 rfl rfl rfl rfl (by decide +kernel)
set_option maxRecDepth 100000 in
theorem zo_41 : zMok zTs vwCl zm_41 := zMok_s 1195 71 1194 rfl rfl rfl (by decide +kernel)
set_option maxRecDepth 100000 in
theorem zo_42 : zMok zTs vwCl zm_42 := zMok_v 1199 71 1198 23 rfl rfl rfl rfl (by decide +kernel)
set_option maxRecDepth 100000 in
theorem zo_43 : zMok zTs vwCl zm_43 := zMok_v 1203 71 1202 24 rfl rfl rfl rfl (by decide +kernel)
set_option maxRecDepth 100000 in
theorem zo_44 : zMok zTs vwCl zm_44 := zMok_v 1184 71 1182 1183 rfl rfl rfl rfl (by decide +kernel)
set_option maxRecDepth 100000 in
theorem zo_45 : zMok zTs vwCl zm_45 := zMok_v 568 65 566 567 rfl rfl rfl rfl (by decide +kernel)
set_option maxRecDepth 100000 in
theorem zo_46 : zMok zTs vwCl zm_46 := zMok_v 572 66 570 571 rfl rfl rfl rfl (by decide +kernel)
set_option maxRecDepth 100000 in
theorem zo_47 : zMok zTs vwCl zm_47 := zMok_v 564 65 562 563 rfl rfl rfl rfl (by decide +kernel)
set_option maxRecDepth 100000 in
theorem zo_48 : zMok zTs vwCl zm_48 := zMok_v 560 60 558 559 rfl rfl rfl rfl (by decide +kernel)
set_option maxRecDepth 100000 in
theorem zo_49 : zMok zTs vwCl zm_49 := zMok_s 556 59 555 rfl rfl rfl (by decide +kernel)
set_option maxRecDepth 100000 in
theorem zo_50 : zMok zTs vwCl zm_50 := zMok_v 1211 71 1210 25 rfl rfl rfl rfl (by decide +kernel)
set_option maxRecDepth 100000 in
theorem zo_51 : zMok zTs vwCl zm_51 := zMok_v 1207 71 1205 1206 rfl rfl rfl rfl (by decide +kernel)
set_option maxRecDepth 100000 in
theorem zo_52 : zMok zTs vwCl zm_52 := zMok_s 582 60 581 rfl rfl rfl (by decide +kernel)
set_option maxRecDepth 100000 in
theorem zo_53 : zMok zTs vwCl zm_53 := zMok_v 588 60 587 2 rfl rfl rfl rfl (by decide +kernel)
set_option maxRecDepth 100000 in
theorem zo_54 : zMok zTs vwCl zm_54 := zMok_v 579 60 577 578 rfl rfl rfl rfl (by decide +kernel)
set_option maxRecDepth 100000 in
theorem zo_55 : zMok zTs vwCl zm_55 := zMok_s 575 59 574 rfl rfl rfl (by decide +kernel)
set_option maxRecDepth 100000 in
theorem zo_56 : zMok zTs vwCl zm_56 := zMok_s 1218 71 1217 rfl rfl rfl (by decide +kernel)
set_option maxRecDepth 100000 in
theorem zo_57 : zMok zTs vwCl zm_57 := zMok_v 1215 71 1213 1214 rfl rfl rfl rfl (by decide +kernel)
set_option maxRecDepth 100000 in
theorem zo_58 : zMok zTs vwCl zm_58 := zMok_v 595 60 593 594 rfl rfl rfl rfl (by decide +kernel)
set_option maxRecDepth 100000 in
theorem zo_59 : zMok zTs vwCl zm_59 := zMok_s 591 59 590 rfl rfl rfl (by decide +kernel)
set_option maxRecDepth 100000 in
theorem zo_60 : zMok zTs vwCl zm_60 := zMok_v 1223 71 1221 1222 rfl rfl rfl rfl (by decide +kernel)
set_option maxRecDepth 100000 in
theorem zo_61 : zMok zTs vwCl zm_61 := zMok_s 605 60 604 rfl rfl rfl (by decide +kernel)
set_option maxRecDepth 100000 in
theorem zo_62 : zMok zTs vwCl zm_62 := zMok_s 608 60 607 rfl rfl rfl (by decide +kernel)
set_option maxRecDepth 100000 in
theorem zo_63 : zMok zTs vwCl zm_63 := zMok_v 613 68 611 612 rfl rfl rfl rfl (by decide +kernel)
set_option maxRecDepth 100000 in
theorem zo_64 : zMok zTs vwCl zm_64 := zMok_v 622 65 620 621 rfl rfl rfl rfl (by decide +kernel)
set_option maxRecDepth 100000 in
theorem zo_65 : zMok zTs vwCl zm_65 := zMok_v 617 68 615 616 rfl rfl rfl rfl (by decide +kernel)
set_option maxRecDepth 100000 in
theorem zo_66 : zMok zTs vwCl zm_66 := zMok_v 633 65 631 632 rfl rfl rfl rfl (by decide +kernel)
set_option maxRecDepth 100000 in
theorem zo_67 : zMok zTs vwCl zm_67 := zMok_v 645 66 643 644 rfl rfl rfl rfl (by decide +kernel)
set_option maxRecDepth 100000 in
theorem zo_68 : zMok zTs vwCl zm_68 := zMok_v 641 66 639 640 rfl rfl rfl rfl (by decide +kernel)
set_option maxRecDepth 100000 in
theorem zo_69 : zMok zTs vwCl zm_69 := zMok_v 652 65 650 651 rfl rfl rfl rfl (by decide +kernel)
set_option maxRecDepth 100000 in
theorem zo_70 : zMok zTs vwCl zm_70 := zMok_s 648 69 647 rfl rfl rfl (by decide +kernel)
set_option maxRecDepth 100000 in
theorem zo_71 : zMok zTs vwCl zm_71 := zMok_v 660 66 658 659 rfl rfl rfl rfl (by decide +kernel)
set_option maxRecDepth 100000 in
theorem zo_72 : zMok zTs vwCl zm_72 := zMok_v 656 66 654 655 rfl rfl rfl rfl (by decide +kernel)
set_option maxRecDepth 100000 in
theorem zo_73 : zMok zTs vwCl zm_73 := zMok_v 637 69 636 3 rfl rfl rfl rfl (by decide +kernel)
set_option maxRecDepth 100000 in
theorem zo_74 : zMok zTs vwCl zm_74 := zMok_s 672 67 671 rfl rfl rfl (by decide +kernel)
set_option maxRecDepth 100000 in
theorem zo_75 : zMok zTs vwCl zm_75 := zMok_s 675 67 674 rfl rfl rfl (by decide +kernel)
set_option maxRecDepth 100000 in
theorem zo_76 : zMok zTs vwCl zm_76 := zMok_s 682 60 681 rfl rfl rfl (by decide +kernel)
set_option maxRecDepth 100000 in
theorem zo_77 : zMok zTs vwCl zm_77 := zMok_v 692 61 690 691 rfl rfl rfl rfl (by decide +kernel)
set_option maxRecDepth 100000 in
theorem zo_78 : zMok zTs vwCl zm_78 := zMok_v 696 61 695 6 rfl rfl rfl rfl (by decide +kernel)
set_option maxRecDepth 100000 in
theorem zo_79 : zMok zTs vwCl zm_79 := zMok_v 700 61 698 699 rfl rfl rfl rfl (by decide +kernel)
set_option maxRecDepth 100000 in
theorem zo_80 : zMok zTs vwCl zm_80 := zMok_v 687 61 685 686 rfl rfl rfl rfl (by decide +kernel)
set_option maxRecDepth 100000 in
theorem zo_81 : zMok zTs vwCl zm_81 := zMok_v 704 61 702 703 rfl rfl rfl rfl (by decide +kernel)
set_option maxRecDepth 100000 in
theorem zo_82 : zMok zTs vwCl zm_82 := zMok_v 709 61 707 708 rfl rfl rfl rfl (by decide +kernel)
set_option maxRecDepth 100000 in
theorem zo_83 : zMok zTs vwCl zm_83 := zMok_v 679 67 677 678 rfl rfl rfl rfl (by decide +kernel)
set_option maxRecDepth 100000 in
theorem zo_84 : zMok zTs vwCl zm_84 := zMok_v 668 69 667 5 rfl rfl rfl rfl (by decide +kernel)
set_option maxRecDepth 100000 in
theorem zo_85 : zMok zTs vwCl zm_85 := zMok_v 718 65 716 717 rfl rfl rfl rfl (by decide +kernel)
set_option maxRecDepth 100000 in
theorem zo_86 : zMok zTs vwCl zm_86 := zMok_s 714 69 713 rfl rfl rfl (by decide +kernel)
set_option maxRecDepth 100000 in
theorem zo_87 : zMok zTs vwCl zm_87 := zMok_s 721 69 720 rfl rfl rfl (by decide +kernel)
set_option maxRecDepth 100000 in
theorem zo_88 : zMok zTs vwCl zm_88 := zMok_v 725 69 724 7 rfl rfl rfl rfl (by decide +kernel)
set_option maxRecDepth 100000 in
theorem zo_89 : zMok zTs vwCl zm_89 := zMok_s 728 69 727 rfl rfl rfl (by decide +kernel)
set_option maxRecDepth 100000 in
theorem zo_90 : zMok zTs vwCl zm_90 := zMok_v 732 66 730 731 rfl rfl rfl rfl (by decide +kernel)
set_option maxRecDepth 100000 in
theorem zo_91 : zMok zTs vwCl zm_91 := zMok_v 664 69 663 4 rfl rfl rfl rfl (by decide +kernel)
set_option maxRecDepth 100000 in
theorem zo_92 : zMok zTs vwCl zm_92 := zMok_v 744 63 742 743 rfl rfl rfl rfl (by decide +kernel)
set_option maxRecDepth 100000 in
theorem zo_93 : zMok zTs vwCl zm_93 := zMok_v 748 64 746 747 rfl rfl rfl rfl (by decide +kernel)
set_option maxRecDepth 100000 in
theorem zo_94 : zMok zTs vwCl zm_94 := zMok_v 737 68 735 736 rfl rfl rfl rfl (by decide +kernel)
set_option maxRecDepth 100000 in
theorem zo_95 : zMok zTs vwCl zm_95 := zMok_v 757 62 755 756 rfl rfl rfl rfl (by decide +kernel)
set_option maxRecDepth 100000 in
theorem zo_96 : zMok zTs vwCl zm_96 := zMok_v 769 68 768 9 rfl rfl rfl rfl (by decide +kernel)
set_option maxRecDepth 100000 in
theorem zo_97 : zMok zTs vwCl zm_97 := zMok_v 761 68 760 8 rfl rfl rfl rfl (by decide +kernel)
set_option maxRecDepth 100000 in
theorem zo_98 : zMok zTs vwCl zm_98 := zMok_v 777 64 775 776 rfl rfl rfl rfl (by decide +kernel)
set_option maxRecDepth 100000 in
theorem zo_99 : zMok zTs vwCl zm_99 := zMok_v 773 68 772 10 rfl rfl rfl rfl (by decide +kernel)
set_option maxRecDepth 100000 in
theorem zo_100 : zMok zTs vwCl zm_100 := zMok_v 752 68 750 751 rfl rfl rfl rfl (by decide +kernel)
set_option maxRecDepth 100000 in
theorem zo_101 : zMok zTs vwCl zm_101 := zMok_v 629 69 627 628 rfl rfl rfl rfl (by decide +kernel)
set_option maxRecDepth 100000 in
theorem zo_102 : zMok zTs vwCl zm_102 := zMok_v 602 60 600 601 rfl rfl rfl rfl (by decide +kernel)
set_option maxRecDepth 100000 in
theorem zo_103 : zMok zTs vwCl zm_103 := zMok_s 598 59 597 rfl rfl rfl (by decide +kernel)
set_option maxRecDepth 100000 in
theorem zo_104 : zMok zTs vwCl zm_104 := zMok_v 1235 71 1234 27 rfl rfl rfl rfl (by decide +kernel)
set_option maxRecDepth 100000 in
theorem zo_105 : zMok zTs vwCl zm_105 := zMok_v 1231 71 1230 26 rfl rfl rfl rfl (by decide +kernel)
set_option maxRecDepth 100000 in
theorem zo_106 : zMok zTs vwCl zm_106 := zMok_v 1248 71 1247 30 rfl rfl rfl rfl (by decide +kernel)
set_option maxRecDepth 100000 in
theorem zo_107 : zMok zTs vwCl zm_107 := zMok_v 1252 71 1251 31 rfl rfl rfl rfl (by decide +kernel)
set_option maxRecDepth 100000 in
theorem zo_108 : zMok zTs vwCl zm_108 := zMok_v 1244 71 1243 29 rfl rfl rfl rfl (by decide +kernel)
set_option maxRecDepth 100000 in
theorem zo_109 : zMok zTs vwCl zm_109 := zMok_s 1263 71 1262 rfl rfl rfl (by decide +kernel)
set_option maxRecDepth 100000 in
theorem zo_110 : zMok zTs vwCl zm_110 := zMok_v 1271 71 1270 35 rfl rfl rfl rfl (by decide +kernel)
set_option maxRecDepth 100000 in
theorem zo_111 : zMok zTs vwCl zm_111 := zMok_v 1287 71 1286 39 rfl rfl rfl rfl (by decide +kernel)
set_option maxRecDepth 100000 in
theorem zo_112 : zMok zTs vwCl zm_112 := zMok_v 1291 71 1290 40 rfl rfl rfl rfl (by decide +kernel)
set_option maxRecDepth 100000 in
theorem zo_113 : zMok zTs vwCl zm_113 := zMok_v 1295 71 1294 41 rfl rfl rfl rfl (by decide +kernel)
set_option maxRecDepth 100000 in
theorem zo_114 : zMok zTs vwCl zm_114 := zMok_v 1283 71 1282 38 rfl rfl rfl rfl (by decide +kernel)
set_option maxRecDepth 100000 in
theorem zo_115 : zMok zTs vwCl zm_115 := zMok_v 1279 71 1278 37 rfl rfl rfl rfl (by decide +kernel)
set_option maxRecDepth 100000 in
theorem zo_116 : zMok zTs vwCl zm_116 := zMok_v 1275 71 1274 36 rfl rfl rfl rfl (by decide +kernel)
set_option maxRecDepth 100000 in
theorem zo_117 : zMok zTs vwCl zm_117 := zMok_v 1267 71 1266 34 rfl rfl rfl rfl (by decide +kernel)
set_option maxRecDepth 100000 in
theorem zo_118 : zMok zTs vwCl zm_118 := zMok_v 1299 71 1298 42 rfl rfl rfl rfl (by decide +kernel)
set_option maxRecDepth 100000 in
theorem zo_119 : zMok zTs vwCl zm_119 := zMok_v 1260 71 1259 33 rfl rfl rfl rfl (by decide +kernel)
set_option maxRecDepth 100000 in
theorem zo_120 : zMok zTs vwCl zm_120 := zMok_v 1303 71 1302 43 rfl rfl rfl rfl (by decide +kernel)
set_option maxRecDepth 100000 in
theorem zo_121 : zMok zTs vwCl zm_121 := zMok_v 1307 71 1306 44 rfl rfl rfl rfl (by decide +kernel)
set_option maxRecDepth 100000 in
theorem zo_122 : zMok zTs vwCl zm_122 := zMok_v 1311 71 1310 45 rfl rfl rfl rfl (by decide +kernel)
set_option maxRecDepth 100000 in
theorem zo_123 : zMok zTs vwCl zm_123 := zMok_v 1315 71 1314 46 rfl rfl rfl rfl (by decide +kernel)
set_option maxRecDepth 100000 in
theorem zo_124 : zMok zTs vwCl zm_124 := zMok_v 1256 71 1255 32 rfl rfl rfl rfl (by decide +kernel)
set_option maxRecDepth 100000 in
theorem zo_125 : zMok zTs vwCl zm_125 := zMok_v 1319 71 1318 47 rfl rfl rfl rfl (by decide +kernel)
set_option maxRecDepth 100000 in
theorem zo_126 : zMok zTs vwCl zm_126 := zMok_v 1328 71 1327 49 rfl rfl rfl rfl (by decide +kernel)
set_option maxRecDepth 100000 in
theorem zo_127 : zMok zTs vwCl zm_127 := zMok_v 1324 71 1323 48 rfl rfl rfl rfl (by decide +kernel)
set_option maxRecDepth 100000 in
theorem zo_128 : zMok zTs vwCl zm_128 := zMok_v 1240 71 1239 28 rfl rfl rfl rfl (by decide +kernel)
set_option maxRecDepth 100000 in
theorem zo_129 : zMok zTs vwCl zm_129 := zMok_v 1227 71 1225 1226 rfl rfl rfl rfl (by decide +kernel)
set_option maxRecDepth 100000 in
theorem zo_130 : zMok zTs vwCl zm_130 := zMok_v 795 70 794 11 rfl rfl rfl rfl (by decide +kernel)
set_option maxRecDepth 100000 in
theorem zo_131 : zMok zTs vwCl zm_131 := zMok_s 800 70 799 rfl rfl rfl (by decide +kernel)
set_option maxRecDepth 100000 in
theorem zo_132 : zMok zTs vwCl zm_132 := zMok_s 804 70 803 rfl rfl rfl (by decide +kernel)
set_option maxRecDepth 100000 in
theorem zo_133 : zMok zTs vwCl zm_133 := zMok_s 815 70 814 rfl rfl rfl (by decide +kernel)
set_option maxRecDepth 100000 in
theorem zo_134 : zMok zTs vwCl zm_134 := zMok_v 823 66 822 14 rfl rfl rfl rfl (by decide +kernel)
set_option maxRecDepth 100000 in
theorem zo_135 : zMok zTs vwCl zm_135 := zMok_v 819 66 817 818 rfl rfl rfl rfl (by decide +kernel)
set_option maxRecDepth 100000 in
theorem zo_136 : zMok zTs vwCl zm_136 := zMok_v 812 70 811 13 rfl rfl rfl rfl (by decide +kernel)
set_option maxRecDepth 100000 in
theorem zo_137 : zMok zTs vwCl zm_137 := zMok_v 832 67 830 831 rfl rfl rfl rfl (by decide +kernel)
set_option maxRecDepth 100000 in
theorem zo_138 : zMok zTs vwCl zm_138 := zMok_v 840 67 838 839 rfl rfl rfl rfl (by decide +kernel)
set_option maxRecDepth 100000 in
theorem zo_139 : zMok zTs vwCl zm_139 := zMok_v 849 68 847 848 rfl rfl rfl rfl (by decide +kernel)
set_option maxRecDepth 100000 in
theorem zo_140 : zMok zTs vwCl zm_140 := zMok_v 844 70 843 16 rfl rfl rfl rfl (by decide +kernel)
set_option maxRecDepth 100000 in
theorem zo_141 : zMok zTs vwCl zm_141 := zMok_v 853 70 852 17 rfl rfl rfl rfl (by decide +kernel)
set_option maxRecDepth 100000 in
theorem zo_142 : zMok zTs vwCl zm_142 := zMok_s 857 70 856 rfl rfl rfl (by decide +kernel)
set_option maxRecDepth 100000 in
theorem zo_143 : zMok zTs vwCl zm_143 := zMok_v 828 70 827 15 rfl rfl rfl rfl (by decide +kernel)
set_option maxRecDepth 100000 in
theorem zo_144 : zMok zTs vwCl zm_144 := zMok_v 808 70 807 12 rfl rfl rfl rfl (by decide +kernel)
set_option maxRecDepth 100000 in
theorem zo_145 : zMok zTs vwCl zm_145 := zMok_v 788 70 786 787 rfl rfl rfl rfl (by decide +kernel)
set_option maxRecDepth 100000 in
theorem zo_146 : zMok zTs vwCl zm_146 := zMok_v 784 60 782 783 rfl rfl rfl rfl (by decide +kernel)
set_option maxRecDepth 100000 in
theorem zo_147 : zMok zTs vwCl zm_147 := zMok_s 780 59 779 rfl rfl rfl (by decide +kernel)
set_option maxRecDepth 100000 in
theorem zo_148 : zMok zTs vwCl zm_148 := zMok_v 1344 71 1343 52 rfl rfl rfl rfl (by decide +kernel)
set_option maxRecDepth 100000 in
theorem zo_149 : zMok zTs vwCl zm_149 := zMok_v 1340 71 1339 51 rfl rfl rfl rfl (by decide +kernel)
set_option maxRecDepth 100000 in
theorem zo_150 : zMok zTs vwCl zm_150 := zMok_v 1352 71 1351 54 rfl rfl rfl rfl (by decide +kernel)
set_option maxRecDepth 100000 in
theorem zo_151 : zMok zTs vwCl zm_151 := zMok_v 1348 71 1347 53 rfl rfl rfl rfl (by decide +kernel)
set_option maxRecDepth 100000 in
theorem zo_152 : zMok zTs vwCl zm_152 := zMok_v 1336 71 1335 50 rfl rfl rfl rfl (by decide +kernel)
set_option maxRecDepth 100000 in
theorem zo_153 : zMok zTs vwCl zm_153 := zMok_v 1357 71 1356 55 rfl rfl rfl rfl (by decide +kernel)
set_option maxRecDepth 100000 in
theorem zo_154 : zMok zTs vwCl zm_154 := zMok_v 1332 71 1330 1331 rfl rfl rfl rfl (by decide +kernel)
set_option maxRecDepth 100000 in
theorem zo_155 : zMok zTs vwCl zm_155 := zMok_v 864 60 862 863 rfl rfl rfl rfl (by decide +kernel)
set_option maxRecDepth 100000 in
theorem zo_156 : zMok zTs vwCl zm_156 := zMok_s 860 59 859 rfl rfl rfl (by decide +kernel)
set_option maxRecDepth 100000 in
theorem zo_157 : zMok zTs vwCl zm_157 := zMok_v 1361 71 1359 1360 rfl rfl rfl rfl (by decide +kernel)
set_option maxRecDepth 100000 in
theorem zo_158 : zMok zTs vwCl zm_158 := zMok_v 871 60 869 870 rfl rfl rfl rfl (by decide +kernel)
set_option maxRecDepth 100000 in
theorem zo_159 : zMok zTs vwCl zm_159 := zMok_s 867 59 866 rfl rfl rfl (by decide +kernel)
set_option maxRecDepth 100000 in
theorem zo_160 : zMok zTs vwCl zm_160 := zMok_v 1365 71 1363 1364 rfl rfl rfl rfl (by decide +kernel)
set_option maxRecDepth 100000 in
theorem zo_161 : zMok zTs vwCl zm_161 := zMok_v 883 66 881 882 rfl rfl rfl rfl (by decide +kernel)
set_option maxRecDepth 100000 in
theorem zo_162 : zMok zTs vwCl zm_162 := zMok_v 879 60 877 878 rfl rfl rfl rfl (by decide +kernel)
set_option maxRecDepth 100000 in
theorem zo_163 : zMok zTs vwCl zm_163 := zMok_s 875 59 874 rfl rfl rfl (by decide +kernel)
set_option maxRecDepth 100000 in
theorem zo_164 : zMok zTs vwCl zm_164 := zMok_v 1369 71 1367 1368 rfl rfl rfl rfl (by decide +kernel)
set_option maxRecDepth 100000 in
theorem zo_165 : zMok zTs vwCl zm_165 := zMok_s 893 60 892 rfl rfl rfl (by decide +kernel)
set_option maxRecDepth 100000 in
theorem zo_166 : zMok zTs vwCl zm_166 := zMok_v 890 60 888 889 rfl rfl rfl rfl (by decide +kernel)
set_option maxRecDepth 100000 in
theorem zo_167 : zMok zTs vwCl zm_167 := zMok_s 886 59 885 rfl rfl rfl (by decide +kernel)
set_option maxRecDepth 100000 in
theorem zo_168 : zMok zTs vwCl zm_168 := zMok_v 1377 71 1376 56 rfl rfl rfl rfl (by decide +kernel)
set_option maxRecDepth 100000 in
theorem zo_169 : zMok zTs vwCl zm_169 := zMok_v 1373 71 1371 1372 rfl rfl rfl rfl (by decide +kernel)
set_option maxRecDepth 100000 in
theorem zo_170 : zMok zTs vwCl zm_170 := zMok_v 908 60 907 18 rfl rfl rfl rfl (by decide +kernel)
set_option maxRecDepth 100000 in
theorem zo_171 : zMok zTs vwCl zm_171 := zMok_v 904 60 902 903 rfl rfl rfl rfl (by decide +kernel)
set_option maxRecDepth 100000 in
theorem zo_172 : zMok zTs vwCl zm_172 := zMok_s 900 59 899 rfl rfl rfl (by decide +kernel)
set_option maxRecDepth 100000 in
theorem zo_173 : zMok zTs vwCl zm_173 := zMok_v 1381 71 1379 1380 rfl rfl rfl rfl (by decide +kernel)
set_option maxRecDepth 100000 in
theorem zo_174 : zMok zTs vwCl zm_174 := zMok_v 923 61 921 922 rfl rfl rfl rfl (by decide +kernel)
set_option maxRecDepth 100000 in
theorem zo_175 : zMok zTs vwCl zm_175 := zMok_v 919 60 917 918 rfl rfl rfl rfl (by decide +kernel)
set_option maxRecDepth 100000 in
theorem zo_176 : zMok zTs vwCl zm_176 := zMok_s 915 59 914 rfl rfl rfl (by decide +kernel)
set_option maxRecDepth 100000 in
theorem zo_177 : zMok zTs vwCl zm_177 := zMok_v 1385 71 1383 1384 rfl rfl rfl rfl (by decide +kernel)
set_option maxRecDepth 100000 in
theorem zo_178 : zMok zTs vwCl zm_178 := zMok_v 930 60 928 929 rfl rfl rfl rfl (by decide +kernel)
set_option maxRecDepth 100000 in
theorem zo_179 : zMok zTs vwCl zm_179 := zMok_s 926 59 925 rfl rfl rfl (by decide +kernel)
set_option maxRecDepth 100000 in
theorem zo_180 : zMok zTs vwCl zm_180 := zMok_v 1389 71 1387 1388 rfl rfl rfl rfl (by decide +kernel)
set_option maxRecDepth 100000 in
theorem zo_181 : zMok zTs vwCl zm_181 := zMok_v 937 60 935 936 rfl rfl rfl rfl (by decide +kernel)
set_option maxRecDepth 100000 in
theorem zo_182 : zMok zTs vwCl zm_182 := zMok_s 933 59 932 rfl rfl rfl (by decide +kernel)
set_option maxRecDepth 100000 in
theorem zo_183 : zMok zTs vwCl zm_183 := zMok_v 1393 71 1391 1392 rfl rfl rfl rfl (by decide +kernel)
set_option maxRecDepth 100000 in
theorem zo_184 : zMok zTs vwCl zm_184 := zMok_v 394 60 392 393 rfl rfl rfl rfl (by decide +kernel)
set_option maxRecDepth 100000 in
theorem zo_185 : zMok zTs vwCl zm_185 := zMok_v 1397 71 1395 1396 rfl rfl rfl rfl (by decide +kernel)
set_option maxRecDepth 100000 in
theorem zo_186 : zMok zTs vwCl zm_186 := zMok_v 944 60 942 943 rfl rfl rfl rfl (by decide +kernel)
set_option maxRecDepth 100000 in
theorem zo_187 : zMok zTs vwCl zm_187 := zMok_s 940 59 939 rfl rfl rfl (by decide +kernel)
set_option maxRecDepth 100000 in
theorem zo_188 : zMok zTs vwCl zm_188 := zMok_v 1401 71 1399 1400 rfl rfl rfl rfl (by decide +kernel)
set_option maxRecDepth 100000 in
theorem zo_189 : zMok zTs vwCl zm_189 := zMok_s 954 60 953 rfl rfl rfl (by decide +kernel)
set_option maxRecDepth 100000 in
theorem zo_190 : zMok zTs vwCl zm_190 := zMok_v 951 60 949 950 rfl rfl rfl rfl (by decide +kernel)
set_option maxRecDepth 100000 in
theorem zo_191 : zMok zTs vwCl zm_191 := zMok_s 947 59 946 rfl rfl rfl (by decide +kernel)
set_option maxRecDepth 100000 in
theorem zo_192 : zMok zTs vwCl zm_192 := zMok_s 1408 71 1407 rfl rfl rfl (by decide +kernel)
set_option maxRecDepth 100000 in
theorem zo_193 : zMok zTs vwCl zm_193 := zMok_v 1405 71 1403 1404 rfl rfl rfl rfl (by decide +kernel)
set_option maxRecDepth 100000 in
theorem zo_194 : zMok zTs vwCl zm_194 := zMok_v 966 61 964 965 rfl rfl rfl rfl (by decide +kernel)
set_option maxRecDepth 100000 in
theorem zo_195 : zMok zTs vwCl zm_195 := zMok_v 962 60 960 961 rfl rfl rfl rfl (by decide +kernel)
set_option maxRecDepth 100000 in
theorem zo_196 : zMok zTs vwCl zm_196 := zMok_s 958 59 957 rfl rfl rfl (by decide +kernel)
set_option maxRecDepth 100000 in
theorem zo_197 : zMok zTs vwCl zm_197 := zMok_v 1412 71 1410 1411 rfl rfl rfl rfl (by decide +kernel)
set_option maxRecDepth 100000 in
theorem zo_198 : zMok zTs vwCl zm_198 := zMok_s 976 60 975 rfl rfl rfl (by decide +kernel)
set_option maxRecDepth 100000 in
theorem zo_199 : zMok zTs vwCl zm_199 := zMok_v 973 60 971 972 rfl rfl rfl rfl (by decide +kernel)
set_option maxRecDepth 100000 in
theorem zo_200 : zMok zTs vwCl zm_200 := zMok_s 969 59 968 rfl rfl rfl (by decide +kernel)
set_option maxRecDepth 100000 in
theorem zo_201 : zMok zTs vwCl zm_201 := zMok_v 1416 71 1414 1415 rfl rfl rfl rfl (by decide +kernel)
set_option maxRecDepth 100000 in
theorem zo_202 : zMok zTs vwCl zm_202 := zMok_v 983 60 981 982 rfl rfl rfl rfl (by decide +kernel)
set_option maxRecDepth 100000 in
theorem zo_203 : zMok zTs vwCl zm_203 := zMok_s 979 59 978 rfl rfl rfl (by decide +kernel)
set_option maxRecDepth 100000 in
theorem zo_204 : zMok zTs vwCl zm_204 := zMok_v 1420 71 1418 1419 rfl rfl rfl rfl (by decide +kernel)
set_option maxRecDepth 100000 in
theorem zo_205 : zMok zTs vwCl zm_205 := zMok_v 994 61 992 993 rfl rfl rfl rfl (by decide +kernel)
set_option maxRecDepth 100000 in
theorem zo_206 : zMok zTs vwCl zm_206 := zMok_v 990 60 988 989 rfl rfl rfl rfl (by decide +kernel)
set_option maxRecDepth 100000 in
theorem zo_207 : zMok zTs vwCl zm_207 := zMok_s 986 59 985 rfl rfl rfl (by decide +kernel)
set_option maxRecDepth 100000 in
theorem zo_208 : zMok zTs vwCl zm_208 := zMok_v 1428 71 1427 57 rfl rfl rfl rfl (by decide +kernel)
set_option maxRecDepth 100000 in
theorem zo_209 : zMok zTs vwCl zm_209 := zMok_v 1432 71 1431 58 rfl rfl rfl rfl (by decide +kernel)
set_option maxRecDepth 100000 in
theorem zo_210 : zMok zTs vwCl zm_210 := zMok_v 1424 71 1422 1423 rfl rfl rfl rfl (by decide +kernel)
set_option maxRecDepth 100000 in
theorem zo_211 : zMok zTs vwCl zm_211 := zMok_v 1006 62 1004 1005 rfl rfl rfl rfl (by decide +kernel)
set_option maxRecDepth 100000 in
theorem zo_212 : zMok zTs vwCl zm_212 := zMok_v 1002 60 1000 1001 rfl rfl rfl rfl (by decide +kernel)
set_option maxRecDepth 100000 in
theorem zo_213 : zMok zTs vwCl zm_213 := zMok_s 998 59 997 rfl rfl rfl (by decide +kernel)
set_option maxRecDepth 100000 in
theorem zo_214 : zMok zTs vwCl zm_214 := zMok_v 1436 71 1434 1435 rfl rfl rfl rfl (by decide +kernel)
set_option maxRecDepth 100000 in
theorem zo_215 : zMok zTs vwCl zm_215 := zMok_v 1020 61 1018 1019 rfl rfl rfl rfl (by decide +kernel)
set_option maxRecDepth 100000 in
theorem zo_216 : zMok zTs vwCl zm_216 := zMok_v 1024 68 1022 1023 rfl rfl rfl rfl (by decide +kernel)
set_option maxRecDepth 100000 in
theorem zo_217 : zMok zTs vwCl zm_217 := zMok_v 1028 68 1026 1027 rfl rfl rfl rfl (by decide +kernel)
set_option maxRecDepth 100000 in
theorem zo_218 : zMok zTs vwCl zm_218 := zMok_v 1015 60 1013 1014 rfl rfl rfl rfl (by decide +kernel)
set_option maxRecDepth 100000 in
theorem zo_219 : zMok zTs vwCl zm_219 := zMok_s 1011 59 1010 rfl rfl rfl (by decide +kernel)
set_option maxRecDepth 100000 in
theorem zo_220 : zMok zTs vwCl zm_220 := zMok_v 1440 71 1438 1439 rfl rfl rfl rfl (by decide +kernel)
