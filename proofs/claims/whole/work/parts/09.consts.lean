theorem xle {a b : Nat} (h : Nat.ble a b = true) : a ≤ b := Nat.le_of_ble_eq_true h
theorem xc_m1 : Int32.ofInt (-1) = -1 := by decide
theorem xc_0 : Int32.ofInt (0) = 0 := by decide
theorem xc_1 : Int32.ofInt (1) = 1 := by decide
theorem xc_2 : Int32.ofInt (2) = 2 := by decide
theorem xc_3 : Int32.ofInt (3) = 3 := by decide
theorem xc_4 : Int32.ofInt (4) = 4 := by decide
theorem xc_5 : Int32.ofInt (5) = 5 := by decide
theorem xb_m2 : (Int8.ofInt (-2)).toInt32 = -2 := by decide
theorem xb_6 : (Int8.ofInt (6)).toInt32 = 6 := by decide
theorem xb_7 : (Int8.ofInt (7)).toInt32 = 7 := by decide
theorem xb_8 : (Int8.ofInt (8)).toInt32 = 8 := by decide
theorem xb_9 : (Int8.ofInt (9)).toInt32 = 9 := by decide
theorem xb_10 : (Int8.ofInt (10)).toInt32 = 10 := by decide
theorem xb_11 : (Int8.ofInt (11)).toInt32 = 11 := by decide
theorem xb_12 : (Int8.ofInt (12)).toInt32 = 12 := by decide
theorem xb_16 : (Int8.ofInt (16)).toInt32 = 16 := by decide
theorem xb_17 : (Int8.ofInt (17)).toInt32 = 17 := by decide
theorem xb_20 : (Int8.ofInt (20)).toInt32 = 20 := by decide
theorem xb_24 : (Int8.ofInt (24)).toInt32 = 24 := by decide
theorem xb_29 : (Int8.ofInt (29)).toInt32 = 29 := by decide
theorem xb_30 : (Int8.ofInt (30)).toInt32 = 30 := by decide
theorem xb_32 : (Int8.ofInt (32)).toInt32 = 32 := by decide
theorem xb_34 : (Int8.ofInt (34)).toInt32 = 34 := by decide
theorem xb_36 : (Int8.ofInt (36)).toInt32 = 36 := by decide
theorem xb_39 : (Int8.ofInt (39)).toInt32 = 39 := by decide
theorem xb_40 : (Int8.ofInt (40)).toInt32 = 40 := by decide
theorem xb_41 : (Int8.ofInt (41)).toInt32 = 41 := by decide
theorem xb_48 : (Int8.ofInt (48)).toInt32 = 48 := by decide
theorem xb_53 : (Int8.ofInt (53)).toInt32 = 53 := by decide
theorem xb_57 : (Int8.ofInt (57)).toInt32 = 57 := by decide
theorem xb_59 : (Int8.ofInt (59)).toInt32 = 59 := by decide
theorem xb_60 : (Int8.ofInt (60)).toInt32 = 60 := by decide
theorem xb_61 : (Int8.ofInt (61)).toInt32 = 61 := by decide
theorem xb_63 : (Int8.ofInt (63)).toInt32 = 63 := by decide
theorem xb_64 : (Int8.ofInt (64)).toInt32 = 64 := by decide
theorem xb_69 : (Int8.ofInt (69)).toInt32 = 69 := by decide
theorem xb_75 : (Int8.ofInt (75)).toInt32 = 75 := by decide
theorem xb_80 : (Int8.ofInt (80)).toInt32 = 80 := by decide
theorem xb_81 : (Int8.ofInt (81)).toInt32 = 81 := by decide
theorem xb_85 : (Int8.ofInt (85)).toInt32 = 85 := by decide
theorem xb_89 : (Int8.ofInt (89)).toInt32 = 89 := by decide
theorem xb_97 : (Int8.ofInt (97)).toInt32 = 97 := by decide
theorem xb_99 : (Int8.ofInt (99)).toInt32 = 99 := by decide
theorem xb_100 : (Int8.ofInt (100)).toInt32 = 100 := by decide
theorem xb_121 : (Int8.ofInt (121)).toInt32 = 121 := by decide
theorem xb_122 : (Int8.ofInt (122)).toInt32 = 122 := by decide
theorem xh_136 : (Int16.ofInt (136)).toInt32 = 136 := by decide
theorem xh_178 : (Int16.ofInt (178)).toInt32 = 178 := by decide
theorem xh_242 : (Int16.ofInt (242)).toInt32 = 242 := by decide
theorem xh_255 : (Int16.ofInt (255)).toInt32 = 255 := by decide
theorem xh_299 : (Int16.ofInt (299)).toInt32 = 299 := by decide
theorem xh_432 : (Int16.ofInt (432)).toInt32 = 432 := by decide
theorem xh_500 : (Int16.ofInt (500)).toInt32 = 500 := by decide
theorem xh_600 : (Int16.ofInt (600)).toInt32 = 600 := by decide
theorem xh_712 : (Int16.ofInt (712)).toInt32 = 712 := by decide
theorem xh_750 : (Int16.ofInt (750)).toInt32 = 750 := by decide
theorem xh_968 : (Int16.ofInt (968)).toInt32 = 968 := by decide
theorem xh_999 : (Int16.ofInt (999)).toInt32 = 999 := by decide
theorem xh_2400 : (Int16.ofInt (2400)).toInt32 = 2400 := by decide
theorem xh_12345 : (Int16.ofInt (12345)).toInt32 = 12345 := by decide
theorem xlc_0 : Int64.ofNat ((0 : Fin 2) : Nat) = 0 := by decide
theorem xlc_1 : Int64.ofNat ((1 : Fin 2) : Nat) = 1 := by decide
theorem xnb1 {v : Int32} (h : v = 0 ∨ v = 1) : narrow .boolean (.int v) = .int v := by rcases h with rfl | rfl <;> rfl
theorem x01i {c : Prop} [Decidable c] {a b : Int32} (ha : a = 0 ∨ a = 1) (hb : b = 0 ∨ b = 1) : (if c then a else b) = 0 ∨ (if c then a else b) = 1 := by split <;> assumption
theorem xj_if_eq {X : xX} {G : xG} (hG : xClosed X G) {d : Nat} {md : xD} {pc : Nat} {ls : xS} {st : List Value} {Λ : xL} {M : xM} {uc us : Nat} {Q : xP} {x : Int32} {off : Int} {tgt J : Nat} {a b : Int32} (hd : decode md.1 pc = .ok (.ifCond .eq off, 3)) (ht : (pc : Int) + off = (tgt : Int)) (kt : G d md (J) ls (.int a :: st) Λ M uc us Q → G d md (tgt) ls (st) Λ M uc us Q) (kf : G d md (J) ls (.int b :: st) Λ M uc us Q → G d md (pc + 3) ls (st) Λ M uc us Q) (k : G d md (J) ls (.int (if x = 0 then a else b) :: st) Λ M uc us Q) : G d md (pc) ls (.int x :: st) Λ M uc us Q := xq_if_eq hG hd ht (fun h => kt (by rw [if_pos h] at k; exact k)) (fun h => kf (by rw [if_neg h] at k; exact k))
theorem xj_if_ne {X : xX} {G : xG} (hG : xClosed X G) {d : Nat} {md : xD} {pc : Nat} {ls : xS} {st : List Value} {Λ : xL} {M : xM} {uc us : Nat} {Q : xP} {x : Int32} {off : Int} {tgt J : Nat} {a b : Int32} (hd : decode md.1 pc = .ok (.ifCond .ne off, 3)) (ht : (pc : Int) + off = (tgt : Int)) (kt : G d md (J) ls (.int a :: st) Λ M uc us Q → G d md (tgt) ls (st) Λ M uc us Q) (kf : G d md (J) ls (.int b :: st) Λ M uc us Q → G d md (pc + 3) ls (st) Λ M uc us Q) (k : G d md (J) ls (.int (if x = 0 then b else a) :: st) Λ M uc us Q) : G d md (pc) ls (.int x :: st) Λ M uc us Q := xq_if_ne hG hd ht (fun h => kt (by rw [if_neg h] at k; exact k)) (fun h => kf (by rw [if_pos h] at k; exact k))
theorem xj_if_lt {X : xX} {G : xG} (hG : xClosed X G) {d : Nat} {md : xD} {pc : Nat} {ls : xS} {st : List Value} {Λ : xL} {M : xM} {uc us : Nat} {Q : xP} {x : Int32} {off : Int} {tgt J : Nat} {a b : Int32} (hd : decode md.1 pc = .ok (.ifCond .lt off, 3)) (ht : (pc : Int) + off = (tgt : Int)) (kt : G d md (J) ls (.int a :: st) Λ M uc us Q → G d md (tgt) ls (st) Λ M uc us Q) (kf : G d md (J) ls (.int b :: st) Λ M uc us Q → G d md (pc + 3) ls (st) Λ M uc us Q) (k : G d md (J) ls (.int (if x < 0 then a else b) :: st) Λ M uc us Q) : G d md (pc) ls (.int x :: st) Λ M uc us Q := xq_if_lt hG hd ht (fun h => kt (by rw [if_pos h] at k; exact k)) (fun h => kf (by rw [if_neg h] at k; exact k))
theorem xj_if_ge {X : xX} {G : xG} (hG : xClosed X G) {d : Nat} {md : xD} {pc : Nat} {ls : xS} {st : List Value} {Λ : xL} {M : xM} {uc us : Nat} {Q : xP} {x : Int32} {off : Int} {tgt J : Nat} {a b : Int32} (hd : decode md.1 pc = .ok (.ifCond .ge off, 3)) (ht : (pc : Int) + off = (tgt : Int)) (kt : G d md (J) ls (.int a :: st) Λ M uc us Q → G d md (tgt) ls (st) Λ M uc us Q) (kf : G d md (J) ls (.int b :: st) Λ M uc us Q → G d md (pc + 3) ls (st) Λ M uc us Q) (k : G d md (J) ls (.int (if 0 ≤ x then a else b) :: st) Λ M uc us Q) : G d md (pc) ls (.int x :: st) Λ M uc us Q := xq_if_ge hG hd ht (fun h => kt (by rw [if_pos h] at k; exact k)) (fun h => kf (by rw [if_neg h] at k; exact k))
theorem xj_if_gt {X : xX} {G : xG} (hG : xClosed X G) {d : Nat} {md : xD} {pc : Nat} {ls : xS} {st : List Value} {Λ : xL} {M : xM} {uc us : Nat} {Q : xP} {x : Int32} {off : Int} {tgt J : Nat} {a b : Int32} (hd : decode md.1 pc = .ok (.ifCond .gt off, 3)) (ht : (pc : Int) + off = (tgt : Int)) (kt : G d md (J) ls (.int a :: st) Λ M uc us Q → G d md (tgt) ls (st) Λ M uc us Q) (kf : G d md (J) ls (.int b :: st) Λ M uc us Q → G d md (pc + 3) ls (st) Λ M uc us Q) (k : G d md (J) ls (.int (if 0 < x then a else b) :: st) Λ M uc us Q) : G d md (pc) ls (.int x :: st) Λ M uc us Q := xq_if_gt hG hd ht (fun h => kt (by rw [if_pos h] at k; exact k)) (fun h => kf (by rw [if_neg h] at k; exact k))
theorem xj_if_le {X : xX} {G : xG} (hG : xClosed X G) {d : Nat} {md : xD} {pc : Nat} {ls : xS} {st : List Value} {Λ : xL} {M : xM} {uc us : Nat} {Q : xP} {x : Int32} {off : Int} {tgt J : Nat} {a b : Int32} (hd : decode md.1 pc = .ok (.ifCond .le off, 3)) (ht : (pc : Int) + off = (tgt : Int)) (kt : G d md (J) ls (.int a :: st) Λ M uc us Q → G d md (tgt) ls (st) Λ M uc us Q) (kf : G d md (J) ls (.int b :: st) Λ M uc us Q → G d md (pc + 3) ls (st) Λ M uc us Q) (k : G d md (J) ls (.int (if x ≤ 0 then a else b) :: st) Λ M uc us Q) : G d md (pc) ls (.int x :: st) Λ M uc us Q := xq_if_le hG hd ht (fun h => kt (by rw [if_pos h] at k; exact k)) (fun h => kf (by rw [if_neg h] at k; exact k))
theorem xj_icmp_eq {X : xX} {G : xG} (hG : xClosed X G) {d : Nat} {md : xD} {pc : Nat} {ls : xS} {st : List Value} {Λ : xL} {M : xM} {uc us : Nat} {Q : xP} {x y : Int32} {off : Int} {tgt J : Nat} {a b : Int32} (hd : decode md.1 pc = .ok (.if_icmp .eq off, 3)) (ht : (pc : Int) + off = (tgt : Int)) (kt : G d md (J) ls (.int a :: st) Λ M uc us Q → G d md (tgt) ls (st) Λ M uc us Q) (kf : G d md (J) ls (.int b :: st) Λ M uc us Q → G d md (pc + 3) ls (st) Λ M uc us Q) (k : G d md (J) ls (.int (if x = y then a else b) :: st) Λ M uc us Q) : G d md (pc) ls (.int y :: .int x :: st) Λ M uc us Q := xq_icmp_eq hG hd ht (fun h => kt (by rw [if_pos h] at k; exact k)) (fun h => kf (by rw [if_neg h] at k; exact k))
theorem xj_icmp_ne {X : xX} {G : xG} (hG : xClosed X G) {d : Nat} {md : xD} {pc : Nat} {ls : xS} {st : List Value} {Λ : xL} {M : xM} {uc us : Nat} {Q : xP} {x y : Int32} {off : Int} {tgt J : Nat} {a b : Int32} (hd : decode md.1 pc = .ok (.if_icmp .ne off, 3)) (ht : (pc : Int) + off = (tgt : Int)) (kt : G d md (J) ls (.int a :: st) Λ M uc us Q → G d md (tgt) ls (st) Λ M uc us Q) (kf : G d md (J) ls (.int b :: st) Λ M uc us Q → G d md (pc + 3) ls (st) Λ M uc us Q) (k : G d md (J) ls (.int (if x = y then b else a) :: st) Λ M uc us Q) : G d md (pc) ls (.int y :: .int x :: st) Λ M uc us Q := xq_icmp_ne hG hd ht (fun h => kt (by rw [if_neg h] at k; exact k)) (fun h => kf (by rw [if_pos h] at k; exact k))
theorem xj_icmp_lt {X : xX} {G : xG} (hG : xClosed X G) {d : Nat} {md : xD} {pc : Nat} {ls : xS} {st : List Value} {Λ : xL} {M : xM} {uc us : Nat} {Q : xP} {x y : Int32} {off : Int} {tgt J : Nat} {a b : Int32} (hd : decode md.1 pc = .ok (.if_icmp .lt off, 3)) (ht : (pc : Int) + off = (tgt : Int)) (kt : G d md (J) ls (.int a :: st) Λ M uc us Q → G d md (tgt) ls (st) Λ M uc us Q) (kf : G d md (J) ls (.int b :: st) Λ M uc us Q → G d md (pc + 3) ls (st) Λ M uc us Q) (k : G d md (J) ls (.int (if x < y then a else b) :: st) Λ M uc us Q) : G d md (pc) ls (.int y :: .int x :: st) Λ M uc us Q := xq_icmp_lt hG hd ht (fun h => kt (by rw [if_pos h] at k; exact k)) (fun h => kf (by rw [if_neg h] at k; exact k))
theorem xj_icmp_ge {X : xX} {G : xG} (hG : xClosed X G) {d : Nat} {md : xD} {pc : Nat} {ls : xS} {st : List Value} {Λ : xL} {M : xM} {uc us : Nat} {Q : xP} {x y : Int32} {off : Int} {tgt J : Nat} {a b : Int32} (hd : decode md.1 pc = .ok (.if_icmp .ge off, 3)) (ht : (pc : Int) + off = (tgt : Int)) (kt : G d md (J) ls (.int a :: st) Λ M uc us Q → G d md (tgt) ls (st) Λ M uc us Q) (kf : G d md (J) ls (.int b :: st) Λ M uc us Q → G d md (pc + 3) ls (st) Λ M uc us Q) (k : G d md (J) ls (.int (if y ≤ x then a else b) :: st) Λ M uc us Q) : G d md (pc) ls (.int y :: .int x :: st) Λ M uc us Q := xq_icmp_ge hG hd ht (fun h => kt (by rw [if_pos h] at k; exact k)) (fun h => kf (by rw [if_neg h] at k; exact k))
theorem xj_icmp_gt {X : xX} {G : xG} (hG : xClosed X G) {d : Nat} {md : xD} {pc : Nat} {ls : xS} {st : List Value} {Λ : xL} {M : xM} {uc us : Nat} {Q : xP} {x y : Int32} {off : Int} {tgt J : Nat} {a b : Int32} (hd : decode md.1 pc = .ok (.if_icmp .gt off, 3)) (ht : (pc : Int) + off = (tgt : Int)) (kt : G d md (J) ls (.int a :: st) Λ M uc us Q → G d md (tgt) ls (st) Λ M uc us Q) (kf : G d md (J) ls (.int b :: st) Λ M uc us Q → G d md (pc + 3) ls (st) Λ M uc us Q) (k : G d md (J) ls (.int (if y < x then a else b) :: st) Λ M uc us Q) : G d md (pc) ls (.int y :: .int x :: st) Λ M uc us Q := xq_icmp_gt hG hd ht (fun h => kt (by rw [if_pos h] at k; exact k)) (fun h => kf (by rw [if_neg h] at k; exact k))
theorem xj_icmp_le {X : xX} {G : xG} (hG : xClosed X G) {d : Nat} {md : xD} {pc : Nat} {ls : xS} {st : List Value} {Λ : xL} {M : xM} {uc us : Nat} {Q : xP} {x y : Int32} {off : Int} {tgt J : Nat} {a b : Int32} (hd : decode md.1 pc = .ok (.if_icmp .le off, 3)) (ht : (pc : Int) + off = (tgt : Int)) (kt : G d md (J) ls (.int a :: st) Λ M uc us Q → G d md (tgt) ls (st) Λ M uc us Q) (kf : G d md (J) ls (.int b :: st) Λ M uc us Q → G d md (pc + 3) ls (st) Λ M uc us Q) (k : G d md (J) ls (.int (if x ≤ y then a else b) :: st) Λ M uc us Q) : G d md (pc) ls (.int y :: .int x :: st) Λ M uc us Q := xq_icmp_le hG hd ht (fun h => kt (by rw [if_pos h] at k; exact k)) (fun h => kf (by rw [if_neg h] at k; exact k))
