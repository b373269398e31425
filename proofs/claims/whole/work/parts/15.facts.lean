/-! ===== what the references hold when all is made ===== -/
def g_life (b : Nat) : Prop := b = 4 ∨ b = 132 ∨ b = 260 ∨ b = 388 ∨ b = 555
def g_taste (t : Nat) : Prop := t = 517 ∨ t = 520 ∨ t = 523 ∨ t = 526 ∨ t = 529 ∨ t = 532 ∨ t = 535
def g_rtab : List (Nat × Int × Nat) := [(0, 0, 1), (0, 1, 3), (0, 2, 516), (0, 3, 538), (0, 4, 547), (0, 5, 548), (0, 6, 683), (0, 7, 686), (0, 8, 697), (0, 9, 701), (1, 0, 2), (538, 0, 1), (538, 1, 539), (538, 2, 541), (538, 3, 543), (538, 4, 545), (538, 5, 546), (539, 4, 540), (541, 4, 542), (543, 4, 544), (547, 0, 1), (548, 0, 516), (548, 1, 549), (548, 2, 554), (549, 0, 550), (549, 1, 551), (549, 2, 552), (549, 3, 553), (683, 0, 548), (683, 1, 684), (683, 2, 685), (686, 0, 548), (686, 1, 683), (686, 2, 687), (686, 3, 688), (686, 4, 689), (686, 5, 690), (697, 0, 548), (697, 1, 698), (697, 2, 699), (697, 3, 700), (701, 0, 548), (701, 1, 702), (703, 1, 704), (703, 2, 705), (703, 3, 706), (703, 4, 707), (703, 18, 708), (703, 19, 709), (703, 20, 710), (703, 21, 711), (703, 22, 712), (703, 25, 713), (703, 26, 714), (703, 27, 715), (703, 28, 716), (703, 30, 717), (703, 31, 718), (703, 33, 719), (703, 34, 720), (703, 35, 721), (703, 36, 722), (703, 37, 723), (703, 39, 724), (703, 40, 725), (703, 43, 726), (703, 44, 727)]
def g_etab : List (Nat × Int × Nat) := [(539, 0, 100), (539, 1, 0), (539, 2, 1), (539, 3, 2), (541, 0, 101), (541, 1, 3), (541, 2, 4), (541, 3, 5), (543, 0, 102), (543, 1, 6), (543, 2, 7), (543, 3, 8), (703, 15, 109), (703, 16, 103)]
def g_rfL (w : g_W) (R : g_R) (b : Nat) : Prop :=
  R b 2 = some (w.2.2.2.1 + (b + 1)) ∧ R b 3 = some (w.2.2.2.1 + (b + 14)) ∧ R b 4 = some (w.2.2.2.1 + (b + 15)) ∧ R b 5 = some (w.2.2.2.1 + (b + 28)) ∧ R b 6 = some (w.2.2.2.1 + (b + 41)) ∧ R b 7 = some (w.2.2.2.1 + (b + 42)) ∧ R b 8 = some (w.2.2.2.1 + (b + 43)) ∧ R b 9 = some (w.2.2.2.1 + (b + 44)) ∧ R b 10 = some (w.2.2.2.1 + (b + 45)) ∧ R b 11 = some (w.2.2.2.1 + (b + 46)) ∧ R b 12 = some (w.2.2.2.1 + (b + 127)) ∧
  (∀ i : Int, 0 ≤ i → i < 12 → R (b + 1) i = some (w.2.2.2.1 + (b + 2 + i.toNat))) ∧ (∀ i : Int, 0 ≤ i → i < 12 → R (b + 15) i = some (w.2.2.2.1 + (b + 16 + i.toNat))) ∧ (∀ i : Int, 0 ≤ i → i < 12 → R (b + 28) i = some (w.2.2.2.1 + (b + 29 + i.toNat))) ∧ (∀ i : Int, 0 ≤ i → i < 80 → R (b + 46) i = some (w.2.2.2.1 + (b + 47 + i.toNat)))
def g_rf (w : g_W) (R : g_R) (lb tx : Nat) : Prop :=
  (∀ q ∈ g_rtab, R q.1 q.2.1 = some (w.2.2.2.1 + q.2.2)) ∧ (∀ q ∈ g_etab, R q.1 q.2.1 = some (w.2.2.2.2 q.2.2)) ∧ (∀ b, g_life b → g_rfL w R b) ∧ (∀ t, g_taste t → R t 0 = some (w.2.2.2.1 + (t + 1)) ∧ R t 1 = some (w.2.2.2.1 + (t + 2))) ∧
  (∀ i : Int, 0 ≤ i → i < 4 → R 3 i = some (w.2.2.2.1 + (4 + 128 * i.toNat))) ∧ (∀ i : Int, 0 ≤ i → i < 7 → R 516 i = some (w.2.2.2.1 + (517 + 3 * i.toNat))) ∧ (∀ i : Int, 0 ≤ i → i < 6 → R 690 i = some (w.2.2.2.1 + (691 + i.toNat))) ∧
  R 548 3 = some (w.2.2.2.1 + lb) ∧ R 703 5 = some (w.2.2.2.1 + tx)
section GRF
variable {w : g_W} {R : g_R} {lb tx b t : Nat}
theorem rc_0_0 (h : g_rf w R lb tx) : R 0 0 = some (w.2.2.2.1 + 1) := h.1 (0, 0, 1) (List.mem_of_getElem? (i := 0) rfl)
theorem rc_0_1 (h : g_rf w R lb tx) : R 0 1 = some (w.2.2.2.1 + 3) := h.1 (0, 1, 3) (List.mem_of_getElem? (i := 1) rfl)
theorem rc_0_2 (h : g_rf w R lb tx) : R 0 2 = some (w.2.2.2.1 + 516) := h.1 (0, 2, 516) (List.mem_of_getElem? (i := 2) rfl)
theorem rc_0_3 (h : g_rf w R lb tx) : R 0 3 = some (w.2.2.2.1 + 538) := h.1 (0, 3, 538) (List.mem_of_getElem? (i := 3) rfl)
theorem rc_0_4 (h : g_rf w R lb tx) : R 0 4 = some (w.2.2.2.1 + 547) := h.1 (0, 4, 547) (List.mem_of_getElem? (i := 4) rfl)
theorem rc_0_5 (h : g_rf w R lb tx) : R 0 5 = some (w.2.2.2.1 + 548) := h.1 (0, 5, 548) (List.mem_of_getElem? (i := 5) rfl)
theorem rc_0_6 (h : g_rf w R lb tx) : R 0 6 = some (w.2.2.2.1 + 683) := h.1 (0, 6, 683) (List.mem_of_getElem? (i := 6) rfl)
theorem rc_0_7 (h : g_rf w R lb tx) : R 0 7 = some (w.2.2.2.1 + 686) := h.1 (0, 7, 686) (List.mem_of_getElem? (i := 7) rfl)
theorem rc_0_8 (h : g_rf w R lb tx) : R 0 8 = some (w.2.2.2.1 + 697) := h.1 (0, 8, 697) (List.mem_of_getElem? (i := 8) rfl)
theorem rc_0_9 (h : g_rf w R lb tx) : R 0 9 = some (w.2.2.2.1 + 701) := h.1 (0, 9, 701) (List.mem_of_getElem? (i := 9) rfl)
theorem rc_1_0 (h : g_rf w R lb tx) : R 1 0 = some (w.2.2.2.1 + 2) := h.1 (1, 0, 2) (List.mem_of_getElem? (i := 10) rfl)
theorem rc_538_0 (h : g_rf w R lb tx) : R 538 0 = some (w.2.2.2.1 + 1) := h.1 (538, 0, 1) (List.mem_of_getElem? (i := 11) rfl)
theorem rc_538_1 (h : g_rf w R lb tx) : R 538 1 = some (w.2.2.2.1 + 539) := h.1 (538, 1, 539) (List.mem_of_getElem? (i := 12) rfl)
theorem rc_538_2 (h : g_rf w R lb tx) : R 538 2 = some (w.2.2.2.1 + 541) := h.1 (538, 2, 541) (List.mem_of_getElem? (i := 13) rfl)
theorem rc_538_3 (h : g_rf w R lb tx) : R 538 3 = some (w.2.2.2.1 + 543) := h.1 (538, 3, 543) (List.mem_of_getElem? (i := 14) rfl)
theorem rc_538_4 (h : g_rf w R lb tx) : R 538 4 = some (w.2.2.2.1 + 545) := h.1 (538, 4, 545) (List.mem_of_getElem? (i := 15) rfl)
theorem rc_538_5 (h : g_rf w R lb tx) : R 538 5 = some (w.2.2.2.1 + 546) := h.1 (538, 5, 546) (List.mem_of_getElem? (i := 16) rfl)
theorem rc_539_4 (h : g_rf w R lb tx) : R 539 4 = some (w.2.2.2.1 + 540) := h.1 (539, 4, 540) (List.mem_of_getElem? (i := 17) rfl)
theorem rc_541_4 (h : g_rf w R lb tx) : R 541 4 = some (w.2.2.2.1 + 542) := h.1 (541, 4, 542) (List.mem_of_getElem? (i := 18) rfl)
theorem rc_543_4 (h : g_rf w R lb tx) : R 543 4 = some (w.2.2.2.1 + 544) := h.1 (543, 4, 544) (List.mem_of_getElem? (i := 19) rfl)
theorem rc_547_0 (h : g_rf w R lb tx) : R 547 0 = some (w.2.2.2.1 + 1) := h.1 (547, 0, 1) (List.mem_of_getElem? (i := 20) rfl)
theorem rc_548_0 (h : g_rf w R lb tx) : R 548 0 = some (w.2.2.2.1 + 516) := h.1 (548, 0, 516) (List.mem_of_getElem? (i := 21) rfl)
theorem rc_548_1 (h : g_rf w R lb tx) : R 548 1 = some (w.2.2.2.1 + 549) := h.1 (548, 1, 549) (List.mem_of_getElem? (i := 22) rfl)
theorem rc_548_2 (h : g_rf w R lb tx) : R 548 2 = some (w.2.2.2.1 + 554) := h.1 (548, 2, 554) (List.mem_of_getElem? (i := 23) rfl)
theorem rc_549_0 (h : g_rf w R lb tx) : R 549 0 = some (w.2.2.2.1 + 550) := h.1 (549, 0, 550) (List.mem_of_getElem? (i := 24) rfl)
theorem rc_549_1 (h : g_rf w R lb tx) : R 549 1 = some (w.2.2.2.1 + 551) := h.1 (549, 1, 551) (List.mem_of_getElem? (i := 25) rfl)
theorem rc_549_2 (h : g_rf w R lb tx) : R 549 2 = some (w.2.2.2.1 + 552) := h.1 (549, 2, 552) (List.mem_of_getElem? (i := 26) rfl)
theorem rc_549_3 (h : g_rf w R lb tx) : R 549 3 = some (w.2.2.2.1 + 553) := h.1 (549, 3, 553) (List.mem_of_getElem? (i := 27) rfl)
theorem rc_683_0 (h : g_rf w R lb tx) : R 683 0 = some (w.2.2.2.1 + 548) := h.1 (683, 0, 548) (List.mem_of_getElem? (i := 28) rfl)
theorem rc_683_1 (h : g_rf w R lb tx) : R 683 1 = some (w.2.2.2.1 + 684) := h.1 (683, 1, 684) (List.mem_of_getElem? (i := 29) rfl)
theorem rc_683_2 (h : g_rf w R lb tx) : R 683 2 = some (w.2.2.2.1 + 685) := h.1 (683, 2, 685) (List.mem_of_getElem? (i := 30) rfl)
theorem rc_686_0 (h : g_rf w R lb tx) : R 686 0 = some (w.2.2.2.1 + 548) := h.1 (686, 0, 548) (List.mem_of_getElem? (i := 31) rfl)
theorem rc_686_1 (h : g_rf w R lb tx) : R 686 1 = some (w.2.2.2.1 + 683) := h.1 (686, 1, 683) (List.mem_of_getElem? (i := 32) rfl)
theorem rc_686_2 (h : g_rf w R lb tx) : R 686 2 = some (w.2.2.2.1 + 687) := h.1 (686, 2, 687) (List.mem_of_getElem? (i := 33) rfl)
theorem rc_686_3 (h : g_rf w R lb tx) : R 686 3 = some (w.2.2.2.1 + 688) := h.1 (686, 3, 688) (List.mem_of_getElem? (i := 34) rfl)
theorem rc_686_4 (h : g_rf w R lb tx) : R 686 4 = some (w.2.2.2.1 + 689) := h.1 (686, 4, 689) (List.mem_of_getElem? (i := 35) rfl)
theorem rc_686_5 (h : g_rf w R lb tx) : R 686 5 = some (w.2.2.2.1 + 690) := h.1 (686, 5, 690) (List.mem_of_getElem? (i := 36) rfl)
theorem rc_697_0 (h : g_rf w R lb tx) : R 697 0 = some (w.2.2.2.1 + 548) := h.1 (697, 0, 548) (List.mem_of_getElem? (i := 37) rfl)
theorem rc_697_1 (h : g_rf w R lb tx) : R 697 1 = some (w.2.2.2.1 + 698) := h.1 (697, 1, 698) (List.mem_of_getElem? (i := 38) rfl)
theorem rc_697_2 (h : g_rf w R lb tx) : R 697 2 = some (w.2.2.2.1 + 699) := h.1 (697, 2, 699) (List.mem_of_getElem? (i := 39) rfl)
theorem rc_697_3 (h : g_rf w R lb tx) : R 697 3 = some (w.2.2.2.1 + 700) := h.1 (697, 3, 700) (List.mem_of_getElem? (i := 40) rfl)
theorem rc_701_0 (h : g_rf w R lb tx) : R 701 0 = some (w.2.2.2.1 + 548) := h.1 (701, 0, 548) (List.mem_of_getElem? (i := 41) rfl)
theorem rc_701_1 (h : g_rf w R lb tx) : R 701 1 = some (w.2.2.2.1 + 702) := h.1 (701, 1, 702) (List.mem_of_getElem? (i := 42) rfl)
theorem rc_703_1 (h : g_rf w R lb tx) : R 703 1 = some (w.2.2.2.1 + 704) := h.1 (703, 1, 704) (List.mem_of_getElem? (i := 43) rfl)
theorem rc_703_2 (h : g_rf w R lb tx) : R 703 2 = some (w.2.2.2.1 + 705) := h.1 (703, 2, 705) (List.mem_of_getElem? (i := 44) rfl)
theorem rc_703_3 (h : g_rf w R lb tx) : R 703 3 = some (w.2.2.2.1 + 706) := h.1 (703, 3, 706) (List.mem_of_getElem? (i := 45) rfl)
theorem rc_703_4 (h : g_rf w R lb tx) : R 703 4 = some (w.2.2.2.1 + 707) := h.1 (703, 4, 707) (List.mem_of_getElem? (i := 46) rfl)
theorem rc_703_18 (h : g_rf w R lb tx) : R 703 18 = some (w.2.2.2.1 + 708) := h.1 (703, 18, 708) (List.mem_of_getElem? (i := 47) rfl)
theorem rc_703_19 (h : g_rf w R lb tx) : R 703 19 = some (w.2.2.2.1 + 709) := h.1 (703, 19, 709) (List.mem_of_getElem? (i := 48) rfl)
theorem rc_703_20 (h : g_rf w R lb tx) : R 703 20 = some (w.2.2.2.1 + 710) := h.1 (703, 20, 710) (List.mem_of_getElem? (i := 49) rfl)
theorem rc_703_21 (h : g_rf w R lb tx) : R 703 21 = some (w.2.2.2.1 + 711) := h.1 (703, 21, 711) (List.mem_of_getElem? (i := 50) rfl)
theorem rc_703_22 (h : g_rf w R lb tx) : R 703 22 = some (w.2.2.2.1 + 712) := h.1 (703, 22, 712) (List.mem_of_getElem? (i := 51) rfl)
theorem rc_703_25 (h : g_rf w R lb tx) : R 703 25 = some (w.2.2.2.1 + 713) := h.1 (703, 25, 713) (List.mem_of_getElem? (i := 52) rfl)
theorem rc_703_26 (h : g_rf w R lb tx) : R 703 26 = some (w.2.2.2.1 + 714) := h.1 (703, 26, 714) (List.mem_of_getElem? (i := 53) rfl)
theorem rc_703_27 (h : g_rf w R lb tx) : R 703 27 = some (w.2.2.2.1 + 715) := h.1 (703, 27, 715) (List.mem_of_getElem? (i := 54) rfl)
theorem rc_703_28 (h : g_rf w R lb tx) : R 703 28 = some (w.2.2.2.1 + 716) := h.1 (703, 28, 716) (List.mem_of_getElem? (i := 55) rfl)
theorem rc_703_30 (h : g_rf w R lb tx) : R 703 30 = some (w.2.2.2.1 + 717) := h.1 (703, 30, 717) (List.mem_of_getElem? (i := 56) rfl)
theorem rc_703_31 (h : g_rf w R lb tx) : R 703 31 = some (w.2.2.2.1 + 718) := h.1 (703, 31, 718) (List.mem_of_getElem? (i := 57) rfl)
theorem rc_703_33 (h : g_rf w R lb tx) : R 703 33 = some (w.2.2.2.1 + 719) := h.1 (703, 33, 719) (List.mem_of_getElem? (i := 58) rfl)
theorem rc_703_34 (h : g_rf w R lb tx) : R 703 34 = some (w.2.2.2.1 + 720) := h.1 (703, 34, 720) (List.mem_of_getElem? (i := 59) rfl)
theorem rc_703_35 (h : g_rf w R lb tx) : R 703 35 = some (w.2.2.2.1 + 721) := h.1 (703, 35, 721) (List.mem_of_getElem? (i := 60) rfl)
theorem rc_703_36 (h : g_rf w R lb tx) : R 703 36 = some (w.2.2.2.1 + 722) := h.1 (703, 36, 722) (List.mem_of_getElem? (i := 61) rfl)
theorem rc_703_37 (h : g_rf w R lb tx) : R 703 37 = some (w.2.2.2.1 + 723) := h.1 (703, 37, 723) (List.mem_of_getElem? (i := 62) rfl)
theorem rc_703_39 (h : g_rf w R lb tx) : R 703 39 = some (w.2.2.2.1 + 724) := h.1 (703, 39, 724) (List.mem_of_getElem? (i := 63) rfl)
theorem rc_703_40 (h : g_rf w R lb tx) : R 703 40 = some (w.2.2.2.1 + 725) := h.1 (703, 40, 725) (List.mem_of_getElem? (i := 64) rfl)
theorem rc_703_43 (h : g_rf w R lb tx) : R 703 43 = some (w.2.2.2.1 + 726) := h.1 (703, 43, 726) (List.mem_of_getElem? (i := 65) rfl)
theorem rc_703_44 (h : g_rf w R lb tx) : R 703 44 = some (w.2.2.2.1 + 727) := h.1 (703, 44, 727) (List.mem_of_getElem? (i := 66) rfl)
theorem rc_539_0 (h : g_rf w R lb tx) : R 539 0 = some (w.2.2.2.2 100) := h.2.1 (539, 0, 100) (List.mem_of_getElem? (i := 0) rfl)
theorem rc_539_1 (h : g_rf w R lb tx) : R 539 1 = some (w.2.2.2.2 0) := h.2.1 (539, 1, 0) (List.mem_of_getElem? (i := 1) rfl)
theorem rc_539_2 (h : g_rf w R lb tx) : R 539 2 = some (w.2.2.2.2 1) := h.2.1 (539, 2, 1) (List.mem_of_getElem? (i := 2) rfl)
theorem rc_539_3 (h : g_rf w R lb tx) : R 539 3 = some (w.2.2.2.2 2) := h.2.1 (539, 3, 2) (List.mem_of_getElem? (i := 3) rfl)
theorem rc_541_0 (h : g_rf w R lb tx) : R 541 0 = some (w.2.2.2.2 101) := h.2.1 (541, 0, 101) (List.mem_of_getElem? (i := 4) rfl)
theorem rc_541_1 (h : g_rf w R lb tx) : R 541 1 = some (w.2.2.2.2 3) := h.2.1 (541, 1, 3) (List.mem_of_getElem? (i := 5) rfl)
theorem rc_541_2 (h : g_rf w R lb tx) : R 541 2 = some (w.2.2.2.2 4) := h.2.1 (541, 2, 4) (List.mem_of_getElem? (i := 6) rfl)
theorem rc_541_3 (h : g_rf w R lb tx) : R 541 3 = some (w.2.2.2.2 5) := h.2.1 (541, 3, 5) (List.mem_of_getElem? (i := 7) rfl)
theorem rc_543_0 (h : g_rf w R lb tx) : R 543 0 = some (w.2.2.2.2 102) := h.2.1 (543, 0, 102) (List.mem_of_getElem? (i := 8) rfl)
theorem rc_543_1 (h : g_rf w R lb tx) : R 543 1 = some (w.2.2.2.2 6) := h.2.1 (543, 1, 6) (List.mem_of_getElem? (i := 9) rfl)
theorem rc_543_2 (h : g_rf w R lb tx) : R 543 2 = some (w.2.2.2.2 7) := h.2.1 (543, 2, 7) (List.mem_of_getElem? (i := 10) rfl)
theorem rc_543_3 (h : g_rf w R lb tx) : R 543 3 = some (w.2.2.2.2 8) := h.2.1 (543, 3, 8) (List.mem_of_getElem? (i := 11) rfl)
theorem rc_703_15 (h : g_rf w R lb tx) : R 703 15 = some (w.2.2.2.2 109) := h.2.1 (703, 15, 109) (List.mem_of_getElem? (i := 12) rfl)
theorem rc_703_16 (h : g_rf w R lb tx) : R 703 16 = some (w.2.2.2.2 103) := h.2.1 (703, 16, 103) (List.mem_of_getElem? (i := 13) rfl)
theorem rc_548_3 (h : g_rf w R lb tx) : R 548 3 = some (w.2.2.2.1 + lb) := h.2.2.2.2.2.2.2.1
theorem rc_703_5 (h : g_rf w R lb tx) : R 703 5 = some (w.2.2.2.1 + tx) := h.2.2.2.2.2.2.2.2
theorem rl_2 (h : g_rf w R lb tx) (hb : g_life b) : R b 2 = some (w.2.2.2.1 + (b + 1)) := (h.2.2.1 b hb).1
theorem rl_3 (h : g_rf w R lb tx) (hb : g_life b) : R b 3 = some (w.2.2.2.1 + (b + 14)) := (h.2.2.1 b hb).2.1
theorem rl_4 (h : g_rf w R lb tx) (hb : g_life b) : R b 4 = some (w.2.2.2.1 + (b + 15)) := (h.2.2.1 b hb).2.2.1
theorem rl_5 (h : g_rf w R lb tx) (hb : g_life b) : R b 5 = some (w.2.2.2.1 + (b + 28)) := (h.2.2.1 b hb).2.2.2.1
theorem rl_6 (h : g_rf w R lb tx) (hb : g_life b) : R b 6 = some (w.2.2.2.1 + (b + 41)) := (h.2.2.1 b hb).2.2.2.2.1
theorem rl_7 (h : g_rf w R lb tx) (hb : g_life b) : R b 7 = some (w.2.2.2.1 + (b + 42)) := (h.2.2.1 b hb).2.2.2.2.2.1
theorem rl_8 (h : g_rf w R lb tx) (hb : g_life b) : R b 8 = some (w.2.2.2.1 + (b + 43)) := (h.2.2.1 b hb).2.2.2.2.2.2.1
theorem rl_9 (h : g_rf w R lb tx) (hb : g_life b) : R b 9 = some (w.2.2.2.1 + (b + 44)) := (h.2.2.1 b hb).2.2.2.2.2.2.2.1
theorem rl_10 (h : g_rf w R lb tx) (hb : g_life b) : R b 10 = some (w.2.2.2.1 + (b + 45)) := (h.2.2.1 b hb).2.2.2.2.2.2.2.2.1
theorem rl_11 (h : g_rf w R lb tx) (hb : g_life b) : R b 11 = some (w.2.2.2.1 + (b + 46)) := (h.2.2.1 b hb).2.2.2.2.2.2.2.2.2.1
theorem rl_12 (h : g_rf w R lb tx) (hb : g_life b) : R b 12 = some (w.2.2.2.1 + (b + 127)) := (h.2.2.1 b hb).2.2.2.2.2.2.2.2.2.2.1
theorem rl_has (h : g_rf w R lb tx) (hb : g_life b) {i : Int} (h0 : 0 ≤ i) (h1 : i < 12) : R (b + 1) i = some (w.2.2.2.1 + (b + 2 + i.toNat)) := (h.2.2.1 b hb).2.2.2.2.2.2.2.2.2.2.2.1 i h0 h1
theorem rl_wf (h : g_rf w R lb tx) (hb : g_life b) {i : Int} (h0 : 0 ≤ i) (h1 : i < 12) : R (b + 15) i = some (w.2.2.2.1 + (b + 16 + i.toNat)) := (h.2.2.1 b hb).2.2.2.2.2.2.2.2.2.2.2.2.1 i h0 h1
theorem rl_wb (h : g_rf w R lb tx) (hb : g_life b) {i : Int} (h0 : 0 ≤ i) (h1 : i < 12) : R (b + 28) i = some (w.2.2.2.1 + (b + 29 + i.toNat)) := (h.2.2.1 b hb).2.2.2.2.2.2.2.2.2.2.2.2.2.1 i h0 h1
theorem rl_it (h : g_rf w R lb tx) (hb : g_life b) {i : Int} (h0 : 0 ≤ i) (h1 : i < 80) : R (b + 46) i = some (w.2.2.2.1 + (b + 47 + i.toNat)) := (h.2.2.1 b hb).2.2.2.2.2.2.2.2.2.2.2.2.2.2 i h0 h1
theorem rt_0 (h : g_rf w R lb tx) (ht : g_taste t) : R t 0 = some (w.2.2.2.1 + (t + 1)) := (h.2.2.2.1 t ht).1
theorem rt_1 (h : g_rf w R lb tx) (ht : g_taste t) : R t 1 = some (w.2.2.2.1 + (t + 2)) := (h.2.2.2.1 t ht).2
theorem ra_3 (h : g_rf w R lb tx) {i : Int} (h0 : 0 ≤ i) (h1 : i < 4) : R 3 i = some (w.2.2.2.1 + (4 + 128 * i.toNat)) := h.2.2.2.2.1 i h0 h1
theorem ra_516 (h : g_rf w R lb tx) {i : Int} (h0 : 0 ≤ i) (h1 : i < 7) : R 516 i = some (w.2.2.2.1 + (517 + 3 * i.toNat)) := h.2.2.2.2.2.1 i h0 h1
theorem ra_690 (h : g_rf w R lb tx) {i : Int} (h0 : 0 ≤ i) (h1 : i < 6) : R 690 i = some (w.2.2.2.1 + (691 + i.toNat)) := h.2.2.2.2.2.2.1 i h0 h1
theorem gl_of {i : Int} (h0 : 0 ≤ i) (h1 : i < 4) : g_life (4 + 128 * i.toNat) := by unfold g_life; omega
theorem gt_of {i : Int} (h0 : 0 ≤ i) (h1 : i < 7) : g_taste (517 + 3 * i.toNat) := by unfold g_taste; omega
theorem la_0 (hb : g_life b) : g_at g_n b (.inl 4) := by rcases hb with rfl | rfl | rfl | rfl | rfl <;> exact ⟨by decide, by decide +kernel⟩
theorem la_1 (hb : g_life b) : g_at g_n (b + 1) (.inr (3, 12)) := by rcases hb with rfl | rfl | rfl | rfl | rfl <;> exact ⟨by decide, by decide +kernel⟩
theorem la_14 (hb : g_life b) : g_at g_n (b + 14) (.inr (0, 12)) := by rcases hb with rfl | rfl | rfl | rfl | rfl <;> exact ⟨by decide, by decide +kernel⟩
theorem la_15 (hb : g_life b) : g_at g_n (b + 15) (.inr (3, 12)) := by rcases hb with rfl | rfl | rfl | rfl | rfl <;> exact ⟨by decide, by decide +kernel⟩
theorem la_28 (hb : g_life b) : g_at g_n (b + 28) (.inr (3, 12)) := by rcases hb with rfl | rfl | rfl | rfl | rfl <;> exact ⟨by decide, by decide +kernel⟩
theorem la_41 (hb : g_life b) : g_at g_n (b + 41) (.inr (0, 20)) := by rcases hb with rfl | rfl | rfl | rfl | rfl <;> exact ⟨by decide, by decide +kernel⟩
theorem la_42 (hb : g_life b) : g_at g_n (b + 42) (.inr (0, 20)) := by rcases hb with rfl | rfl | rfl | rfl | rfl <;> exact ⟨by decide, by decide +kernel⟩
theorem la_43 (hb : g_life b) : g_at g_n (b + 43) (.inr (0, 20)) := by rcases hb with rfl | rfl | rfl | rfl | rfl <;> exact ⟨by decide, by decide +kernel⟩
theorem la_44 (hb : g_life b) : g_at g_n (b + 44) (.inr (0, 20)) := by rcases hb with rfl | rfl | rfl | rfl | rfl <;> exact ⟨by decide, by decide +kernel⟩
theorem la_45 (hb : g_life b) : g_at g_n (b + 45) (.inr (0, 20)) := by rcases hb with rfl | rfl | rfl | rfl | rfl <;> exact ⟨by decide, by decide +kernel⟩
theorem la_46 (hb : g_life b) : g_at g_n (b + 46) (.inr (3, 80)) := by rcases hb with rfl | rfl | rfl | rfl | rfl <;> exact ⟨by decide, by decide +kernel⟩
theorem la_127 (hb : g_life b) : g_at g_n (b + 127) (.inr (0, 80)) := by rcases hb with rfl | rfl | rfl | rfl | rfl <;> exact ⟨by decide, by decide +kernel⟩
theorem la_hasN (hb : g_life b) : ∀ i : Nat, i < 12 → g_at g_n (b + 2 + i) (.inr (0, 7)) := by rcases hb with rfl | rfl | rfl | rfl | rfl <;> decide +kernel
theorem la_has (hb : g_life b) {i : Int} (h0 : 0 ≤ i) (h1 : i < 12) : g_at g_n (b + 2 + i.toNat) (.inr (0, 7)) := la_hasN hb i.toNat (by omega)
theorem la_wfN (hb : g_life b) : ∀ i : Nat, i < 12 → g_at g_n (b + 16 + i) (.inr (0, 6)) := by rcases hb with rfl | rfl | rfl | rfl | rfl <;> decide +kernel
theorem la_wf (hb : g_life b) {i : Int} (h0 : 0 ≤ i) (h1 : i < 12) : g_at g_n (b + 16 + i.toNat) (.inr (0, 6)) := la_wfN hb i.toNat (by omega)
theorem la_wbN (hb : g_life b) : ∀ i : Nat, i < 12 → g_at g_n (b + 29 + i) (.inr (0, 6)) := by rcases hb with rfl | rfl | rfl | rfl | rfl <;> decide +kernel
theorem la_wb (hb : g_life b) {i : Int} (h0 : 0 ≤ i) (h1 : i < 12) : g_at g_n (b + 29 + i.toNat) (.inr (0, 6)) := la_wbN hb i.toNat (by omega)
theorem la_itN (hb : g_life b) : ∀ i : Nat, i < 80 → g_at g_n (b + 47 + i) (.inr (0, 5)) := by rcases hb with rfl | rfl | rfl | rfl | rfl <;> decide +kernel
theorem la_it (hb : g_life b) {i : Int} (h0 : 0 ≤ i) (h1 : i < 80) : g_at g_n (b + 47 + i.toNat) (.inr (0, 5)) := la_itN hb i.toNat (by omega)
theorem ta_0 (ht : g_taste t) : g_at g_n t (.inl 9) := by rcases ht with rfl | rfl | rfl | rfl | rfl | rfl | rfl <;> exact ⟨by decide, by decide +kernel⟩
theorem ta_1 (ht : g_taste t) : g_at g_n (t + 1) (.inr (0, 256)) := by rcases ht with rfl | rfl | rfl | rfl | rfl | rfl | rfl <;> exact ⟨by decide, by decide +kernel⟩
theorem ta_2 (ht : g_taste t) : g_at g_n (t + 2) (.inr (0, 64)) := by rcases ht with rfl | rfl | rfl | rfl | rfl | rfl | rfl <;> exact ⟨by decide, by decide +kernel⟩
theorem wo_N : ∀ i : Nat, i < 6 → g_at g_n (691 + i) (.inr (0, 12)) := by decide +kernel
theorem wo_at {i : Int} (h0 : 0 ≤ i) (h1 : i < 6) : g_at g_n (691 + i.toNat) (.inr (0, 12)) := wo_N i.toNat (by omega)
end GRF
/-- truth as a number -/
def g_b (c : Prop) [Decidable c] : Int := if c then 1 else 0
theorem g_b1 {c : Prop} [Decidable c] (h : c) : g_b c = 1 := if_pos h
theorem g_b0 {c : Prop} [Decidable c] (h : ¬ c) : g_b c = 0 := if_neg h
theorem g_b01 {c : Prop} [Decidable c] : g_b c = 0 ∨ g_b c = 1 := by unfold g_b; split <;> simp
theorem g_b32 {c : Prop} [Decidable c] : g32 (g_b c) := by unfold g_b g32; split <;> decide
theorem g_bcg {c e : Prop} [Decidable c] [Decidable e] (h : c ↔ e) : g_b c = g_b e := by
  by_cases hc : c
  · rw [g_b1 hc, g_b1 (h.mp hc)]
  · rw [g_b0 hc, g_b0 (fun q => hc (h.mpr q))]
section GBR
variable {w : g_W} {x : g_C} {P : g_P} {u v n : Nat} {I : g_I} {J : g_J} {R : g_R} {pc : Nat} {L : List (Option Value)} {st : List Value} {cc : ByteArray} {nL : Nat} {rt : Option FieldType} {own : String} {d : Nat}
theorem g_ifb_eq {c : Prop} [Decidable c] {off : Int} {tgt : Nat} (hc : g_OK w x cc nL rt own d) (hd : decode cc pc = .ok (.ifCond .eq off, 3)) (ht : (pc : Int) + off = (tgt : Int)) (kt : ¬ c → G w x P u v n I J R tgt L st) (kf : c → G w x P u v n I J R (pc + 3) L st) : G w x P u v n I J R pc L (gvI (g_b c) :: st) :=
  g_if_eq hc hd ht g_b32 (fun h => kt (fun q => by rw [g_b1 q] at h; exact absurd h (by decide))) (fun h => kf (by by_cases q : c; exact q; exact absurd (g_b0 q) h))
theorem g_ifb_ne {c : Prop} [Decidable c] {off : Int} {tgt : Nat} (hc : g_OK w x cc nL rt own d) (hd : decode cc pc = .ok (.ifCond .ne off, 3)) (ht : (pc : Int) + off = (tgt : Int)) (kt : c → G w x P u v n I J R tgt L st) (kf : ¬ c → G w x P u v n I J R (pc + 3) L st) : G w x P u v n I J R pc L (gvI (g_b c) :: st) :=
  g_if_ne hc hd ht g_b32 (fun h => kt (by by_cases q : c; exact q; exact absurd (g_b0 q) h)) (fun h => kf (fun q => by rw [g_b1 q] at h; exact absurd h (by decide)))
theorem g_aldn {k : Fin 4} {z : Nat} (hc : g_OK w x cc nL rt own d) (hd : decode cc pc = .ok (.aload_n k, 1)) (hL : L[(k : Nat)]? = some (some (gvr w z))) (kk : G w x P u v n I J R (pc + 1) L (gvr w z :: st)) : G w x P u v n I J R pc L st := g_aload_n hc hd hL kk
theorem g_ald {i : Nat} {z : Nat} (hc : g_OK w x cc nL rt own d) (hd : decode cc pc = .ok (.aload i, 2)) (hL : L[i]? = some (some (gvr w z))) (kk : G w x P u v n I J R (pc + 2) L (gvr w z :: st)) : G w x P u v n I J R pc L st := g_aload hc hd hL kk
theorem g_getRk {k ci j idx a : Nat} {ds : String} (hc : g_OK w x cc nL rt own d) (h : g_lkF own idx ci j 2 ds) (hs : g_at n k (.inl ci)) (hR : R k (j : Int) = some (w.2.2.2.1 + a)) (hd : decode cc pc = .ok (.getfield idx, 3)) (kk : G w x P u v n I J R (pc + 3) L (gvr w a :: st)) : G w x P u v n I J R pc L (gvr w k :: st) := g_getR hc h hs hR hd kk
theorem g_getRvk {k ci j idx a : Nat} {ds : String} (hc : g_OK w x cc nL rt own d) (h : g_lk own idx ci j 2 ds) (hs : g_at n k (.inl ci)) (hR : R k (j : Int) = some (w.2.2.2.1 + a)) (hd : decode cc pc = .ok (.getfield idx, 3)) (kk : G w x P u v n I J R (pc + 3) L (gvr w a :: st)) : G w x P u v n I J R pc L (gvr w k :: st) := g_getRv hc h hs hR hd kk
theorem g_aaldk {k t len a : Nat} {ty : FieldType} {i : Int} (hc : g_OK w x cc nL rt own d) (hs : g_at n k (.inr (t, len))) (ht : ¬ t < 3) (hty : (g_ty w.2.2.1)[t]? = some (w.2.2.1 t, ty)) (hrf : ty.isReference = true) (hn : len < 2 ^ 31) (h0 : 0 ≤ i) (h1 : i < (len : Int)) (hR : R k i = some (w.2.2.2.1 + a)) (hd : decode cc pc = .ok (.aaload, 1)) (kk : G w x P u v n I J R (pc + 1) L (gvr w a :: st)) : G w x P u v n I J R pc L (gvI i :: gvr w k :: st) := g_aald hc hs ht hty hrf hn h0 h1 hR hd kk
end GBR
