section MNEXT
variable {l : Launch} {K : aK} {d : Nat} {M : aM} {Q : Option Value → aE → aM → Prop}
theorem m_parts {w : Nat} (hw : w ≤ 20) (hQ : Q (some (.int (nI (pts w)))) EE M) : aw l K mX8_parts d 0 0 0 [.int (nI w)] [] EE M Q := by
  rcases (show w = 0 ∨ w = 1 ∨ w = 2 ∨ w = 3 ∨ w = 4 ∨ w = 5 ∨ w = 6 ∨ w = 7 ∨ w = 8 ∨ w = 9 ∨ w = 10 ∨ w = 11 ∨ w = 12 ∨ w = 13 ∨ w = 14 ∨ w = 15 ∨ w = 16 ∨ w = 17 ∨ w = 18 ∨ w = 19 ∨ w = 20 by omega) with rfl | rfl | rfl | rfl | rfl | rfl | rfl | rfl | rfl | rfl | rfl | rfl | rfl | rfl | rfl | rfl | rfl | rfl | rfl | rfl | rfl
  · refine aw_iload_n (n := 1) dX8_parts_0 rfl rfl ?_
    refine aw_iconst (n := 2) (v := 3) dX8_parts_1 (by decide) rfl ?_
    refine aw_icmp_ge (tg := 7) (n := 5) dX8_parts_2 (by decide) rfl (fun c_2 => by first | exact absurd rfl c_2 | exact absurd c_2 (by decide)) (fun _ => ?_)
    refine aw_iconst (n := 6) (v := 0) dX8_parts_5 (by decide) rfl ?_
    refine aw_iret dX8_parts_6 rfl ?_
    exact hQ
  · refine aw_iload_n (n := 1) dX8_parts_0 rfl rfl ?_
    refine aw_iconst (n := 2) (v := 3) dX8_parts_1 (by decide) rfl ?_
    refine aw_icmp_ge (tg := 7) (n := 5) dX8_parts_2 (by decide) rfl (fun c_2 => by first | exact absurd rfl c_2 | exact absurd c_2 (by decide)) (fun _ => ?_)
    refine aw_iconst (n := 6) (v := 0) dX8_parts_5 (by decide) rfl ?_
    refine aw_iret dX8_parts_6 rfl ?_
    exact hQ
  · refine aw_iload_n (n := 1) dX8_parts_0 rfl rfl ?_
    refine aw_iconst (n := 2) (v := 3) dX8_parts_1 (by decide) rfl ?_
    refine aw_icmp_ge (tg := 7) (n := 5) dX8_parts_2 (by decide) rfl (fun c_2 => by first | exact absurd rfl c_2 | exact absurd c_2 (by decide)) (fun _ => ?_)
    refine aw_iconst (n := 6) (v := 0) dX8_parts_5 (by decide) rfl ?_
    refine aw_iret dX8_parts_6 rfl ?_
    exact hQ
  · refine aw_iload_n (n := 1) dX8_parts_0 rfl rfl ?_
    refine aw_iconst (n := 2) (v := 3) dX8_parts_1 (by decide) rfl ?_
    refine aw_icmp_ge (tg := 7) (n := 5) dX8_parts_2 (by decide) rfl (fun _ => ?_) (fun c_2 => by first | exact absurd rfl c_2 | exact absurd c_2 (by decide))
    refine aw_iload_n (n := 8) dX8_parts_7 rfl rfl ?_
    refine aw_bipush (n := 10) (v := 11) dX8_parts_8 (by decide) rfl ?_
    refine aw_icmp_eq (tg := 37) (n := 13) dX8_parts_10 (by decide) rfl (fun c_10 => by first | exact absurd rfl c_10 | exact absurd c_10 (by decide)) (fun _ => ?_)
    refine aw_iload_n (n := 14) dX8_parts_13 rfl rfl ?_
    refine aw_bipush (n := 16) (v := 12) dX8_parts_14 (by decide) rfl ?_
    refine aw_icmp_eq (tg := 37) (n := 19) dX8_parts_16 (by decide) rfl (fun c_16 => by first | exact absurd rfl c_16 | exact absurd c_16 (by decide)) (fun _ => ?_)
    refine aw_iload_n (n := 20) dX8_parts_19 rfl rfl ?_
    refine aw_bipush (n := 22) (v := 16) dX8_parts_20 (by decide) rfl ?_
    refine aw_icmp_eq (tg := 37) (n := 25) dX8_parts_22 (by decide) rfl (fun c_22 => by first | exact absurd rfl c_22 | exact absurd c_22 (by decide)) (fun _ => ?_)
    refine aw_iload_n (n := 26) dX8_parts_25 rfl rfl ?_
    refine aw_bipush (n := 28) (v := 17) dX8_parts_26 (by decide) rfl ?_
    refine aw_icmp_eq (tg := 37) (n := 31) dX8_parts_28 (by decide) rfl (fun c_28 => by first | exact absurd rfl c_28 | exact absurd c_28 (by decide)) (fun _ => ?_)
    refine aw_iload_n (n := 32) dX8_parts_31 rfl rfl ?_
    refine aw_bipush (n := 34) (v := 18) dX8_parts_32 (by decide) rfl ?_
    refine aw_icmp_ne (tg := 39) (n := 37) dX8_parts_34 (by decide) rfl (fun _ => ?_) (fun c_34 => by first | exact absurd rfl c_34 | exact absurd c_34 (by decide))
    refine aw_iload_n (n := 40) dX8_parts_39 rfl rfl ?_
    refine aw_bipush (n := 42) (v := 13) dX8_parts_40 (by decide) rfl ?_
    refine aw_icmp_eq (tg := 57) (n := 45) dX8_parts_42 (by decide) rfl (fun c_42 => by first | exact absurd rfl c_42 | exact absurd c_42 (by decide)) (fun _ => ?_)
    refine aw_iload_n (n := 46) dX8_parts_45 rfl rfl ?_
    refine aw_bipush (n := 48) (v := 15) dX8_parts_46 (by decide) rfl ?_
    refine aw_icmp_eq (tg := 57) (n := 51) dX8_parts_48 (by decide) rfl (fun c_48 => by first | exact absurd rfl c_48 | exact absurd c_48 (by decide)) (fun _ => ?_)
    refine aw_iload_n (n := 52) dX8_parts_51 rfl rfl ?_
    refine aw_bipush (n := 54) (v := 19) dX8_parts_52 (by decide) rfl ?_
    refine aw_icmp_ne (tg := 61) (n := 57) dX8_parts_54 (by decide) rfl (fun _ => ?_) (fun c_54 => by first | exact absurd rfl c_54 | exact absurd c_54 (by decide))
    refine aw_iconst (n := 62) (v := 2) dX8_parts_61 (by decide) rfl ?_
    refine aw_iret dX8_parts_62 rfl ?_
    exact hQ
  · refine aw_iload_n (n := 1) dX8_parts_0 rfl rfl ?_
    refine aw_iconst (n := 2) (v := 3) dX8_parts_1 (by decide) rfl ?_
    refine aw_icmp_ge (tg := 7) (n := 5) dX8_parts_2 (by decide) rfl (fun _ => ?_) (fun c_2 => by first | exact absurd rfl c_2 | exact absurd c_2 (by decide))
    refine aw_iload_n (n := 8) dX8_parts_7 rfl rfl ?_
    refine aw_bipush (n := 10) (v := 11) dX8_parts_8 (by decide) rfl ?_
    refine aw_icmp_eq (tg := 37) (n := 13) dX8_parts_10 (by decide) rfl (fun c_10 => by first | exact absurd rfl c_10 | exact absurd c_10 (by decide)) (fun _ => ?_)
    refine aw_iload_n (n := 14) dX8_parts_13 rfl rfl ?_
    refine aw_bipush (n := 16) (v := 12) dX8_parts_14 (by decide) rfl ?_
    refine aw_icmp_eq (tg := 37) (n := 19) dX8_parts_16 (by decide) rfl (fun c_16 => by first | exact absurd rfl c_16 | exact absurd c_16 (by decide)) (fun _ => ?_)
    refine aw_iload_n (n := 20) dX8_parts_19 rfl rfl ?_
    refine aw_bipush (n := 22) (v := 16) dX8_parts_20 (by decide) rfl ?_
    refine aw_icmp_eq (tg := 37) (n := 25) dX8_parts_22 (by decide) rfl (fun c_22 => by first | exact absurd rfl c_22 | exact absurd c_22 (by decide)) (fun _ => ?_)
    refine aw_iload_n (n := 26) dX8_parts_25 rfl rfl ?_
    refine aw_bipush (n := 28) (v := 17) dX8_parts_26 (by decide) rfl ?_
    refine aw_icmp_eq (tg := 37) (n := 31) dX8_parts_28 (by decide) rfl (fun c_28 => by first | exact absurd rfl c_28 | exact absurd c_28 (by decide)) (fun _ => ?_)
    refine aw_iload_n (n := 32) dX8_parts_31 rfl rfl ?_
    refine aw_bipush (n := 34) (v := 18) dX8_parts_32 (by decide) rfl ?_
    refine aw_icmp_ne (tg := 39) (n := 37) dX8_parts_34 (by decide) rfl (fun _ => ?_) (fun c_34 => by first | exact absurd rfl c_34 | exact absurd c_34 (by decide))
    refine aw_iload_n (n := 40) dX8_parts_39 rfl rfl ?_
    refine aw_bipush (n := 42) (v := 13) dX8_parts_40 (by decide) rfl ?_
    refine aw_icmp_eq (tg := 57) (n := 45) dX8_parts_42 (by decide) rfl (fun c_42 => by first | exact absurd rfl c_42 | exact absurd c_42 (by decide)) (fun _ => ?_)
    refine aw_iload_n (n := 46) dX8_parts_45 rfl rfl ?_
    refine aw_bipush (n := 48) (v := 15) dX8_parts_46 (by decide) rfl ?_
    refine aw_icmp_eq (tg := 57) (n := 51) dX8_parts_48 (by decide) rfl (fun c_48 => by first | exact absurd rfl c_48 | exact absurd c_48 (by decide)) (fun _ => ?_)
    refine aw_iload_n (n := 52) dX8_parts_51 rfl rfl ?_
    refine aw_bipush (n := 54) (v := 19) dX8_parts_52 (by decide) rfl ?_
    refine aw_icmp_ne (tg := 61) (n := 57) dX8_parts_54 (by decide) rfl (fun _ => ?_) (fun c_54 => by first | exact absurd rfl c_54 | exact absurd c_54 (by decide))
    refine aw_iconst (n := 62) (v := 2) dX8_parts_61 (by decide) rfl ?_
    refine aw_iret dX8_parts_62 rfl ?_
    exact hQ
  · refine aw_iload_n (n := 1) dX8_parts_0 rfl rfl ?_
    refine aw_iconst (n := 2) (v := 3) dX8_parts_1 (by decide) rfl ?_
    refine aw_icmp_ge (tg := 7) (n := 5) dX8_parts_2 (by decide) rfl (fun _ => ?_) (fun c_2 => by first | exact absurd rfl c_2 | exact absurd c_2 (by decide))
    refine aw_iload_n (n := 8) dX8_parts_7 rfl rfl ?_
    refine aw_bipush (n := 10) (v := 11) dX8_parts_8 (by decide) rfl ?_
    refine aw_icmp_eq (tg := 37) (n := 13) dX8_parts_10 (by decide) rfl (fun c_10 => by first | exact absurd rfl c_10 | exact absurd c_10 (by decide)) (fun _ => ?_)
    refine aw_iload_n (n := 14) dX8_parts_13 rfl rfl ?_
    refine aw_bipush (n := 16) (v := 12) dX8_parts_14 (by decide) rfl ?_
    refine aw_icmp_eq (tg := 37) (n := 19) dX8_parts_16 (by decide) rfl (fun c_16 => by first | exact absurd rfl c_16 | exact absurd c_16 (by decide)) (fun _ => ?_)
    refine aw_iload_n (n := 20) dX8_parts_19 rfl rfl ?_
    refine aw_bipush (n := 22) (v := 16) dX8_parts_20 (by decide) rfl ?_
    refine aw_icmp_eq (tg := 37) (n := 25) dX8_parts_22 (by decide) rfl (fun c_22 => by first | exact absurd rfl c_22 | exact absurd c_22 (by decide)) (fun _ => ?_)
    refine aw_iload_n (n := 26) dX8_parts_25 rfl rfl ?_
    refine aw_bipush (n := 28) (v := 17) dX8_parts_26 (by decide) rfl ?_
    refine aw_icmp_eq (tg := 37) (n := 31) dX8_parts_28 (by decide) rfl (fun c_28 => by first | exact absurd rfl c_28 | exact absurd c_28 (by decide)) (fun _ => ?_)
    refine aw_iload_n (n := 32) dX8_parts_31 rfl rfl ?_
    refine aw_bipush (n := 34) (v := 18) dX8_parts_32 (by decide) rfl ?_
    refine aw_icmp_ne (tg := 39) (n := 37) dX8_parts_34 (by decide) rfl (fun _ => ?_) (fun c_34 => by first | exact absurd rfl c_34 | exact absurd c_34 (by decide))
    refine aw_iload_n (n := 40) dX8_parts_39 rfl rfl ?_
    refine aw_bipush (n := 42) (v := 13) dX8_parts_40 (by decide) rfl ?_
    refine aw_icmp_eq (tg := 57) (n := 45) dX8_parts_42 (by decide) rfl (fun c_42 => by first | exact absurd rfl c_42 | exact absurd c_42 (by decide)) (fun _ => ?_)
    refine aw_iload_n (n := 46) dX8_parts_45 rfl rfl ?_
    refine aw_bipush (n := 48) (v := 15) dX8_parts_46 (by decide) rfl ?_
    refine aw_icmp_eq (tg := 57) (n := 51) dX8_parts_48 (by decide) rfl (fun c_48 => by first | exact absurd rfl c_48 | exact absurd c_48 (by decide)) (fun _ => ?_)
    refine aw_iload_n (n := 52) dX8_parts_51 rfl rfl ?_
    refine aw_bipush (n := 54) (v := 19) dX8_parts_52 (by decide) rfl ?_
    refine aw_icmp_ne (tg := 61) (n := 57) dX8_parts_54 (by decide) rfl (fun _ => ?_) (fun c_54 => by first | exact absurd rfl c_54 | exact absurd c_54 (by decide))
    refine aw_iconst (n := 62) (v := 2) dX8_parts_61 (by decide) rfl ?_
    refine aw_iret dX8_parts_62 rfl ?_
    exact hQ
  · refine aw_iload_n (n := 1) dX8_parts_0 rfl rfl ?_
    refine aw_iconst (n := 2) (v := 3) dX8_parts_1 (by decide) rfl ?_
    refine aw_icmp_ge (tg := 7) (n := 5) dX8_parts_2 (by decide) rfl (fun _ => ?_) (fun c_2 => by first | exact absurd rfl c_2 | exact absurd c_2 (by decide))
    refine aw_iload_n (n := 8) dX8_parts_7 rfl rfl ?_
    refine aw_bipush (n := 10) (v := 11) dX8_parts_8 (by decide) rfl ?_
    refine aw_icmp_eq (tg := 37) (n := 13) dX8_parts_10 (by decide) rfl (fun c_10 => by first | exact absurd rfl c_10 | exact absurd c_10 (by decide)) (fun _ => ?_)
    refine aw_iload_n (n := 14) dX8_parts_13 rfl rfl ?_
    refine aw_bipush (n := 16) (v := 12) dX8_parts_14 (by decide) rfl ?_
    refine aw_icmp_eq (tg := 37) (n := 19) dX8_parts_16 (by decide) rfl (fun c_16 => by first | exact absurd rfl c_16 | exact absurd c_16 (by decide)) (fun _ => ?_)
    refine aw_iload_n (n := 20) dX8_parts_19 rfl rfl ?_
    refine aw_bipush (n := 22) (v := 16) dX8_parts_20 (by decide) rfl ?_
    refine aw_icmp_eq (tg := 37) (n := 25) dX8_parts_22 (by decide) rfl (fun c_22 => by first | exact absurd rfl c_22 | exact absurd c_22 (by decide)) (fun _ => ?_)
    refine aw_iload_n (n := 26) dX8_parts_25 rfl rfl ?_
    refine aw_bipush (n := 28) (v := 17) dX8_parts_26 (by decide) rfl ?_
    refine aw_icmp_eq (tg := 37) (n := 31) dX8_parts_28 (by decide) rfl (fun c_28 => by first | exact absurd rfl c_28 | exact absurd c_28 (by decide)) (fun _ => ?_)
    refine aw_iload_n (n := 32) dX8_parts_31 rfl rfl ?_
    refine aw_bipush (n := 34) (v := 18) dX8_parts_32 (by decide) rfl ?_
    refine aw_icmp_ne (tg := 39) (n := 37) dX8_parts_34 (by decide) rfl (fun _ => ?_) (fun c_34 => by first | exact absurd rfl c_34 | exact absurd c_34 (by decide))
    refine aw_iload_n (n := 40) dX8_parts_39 rfl rfl ?_
    refine aw_bipush (n := 42) (v := 13) dX8_parts_40 (by decide) rfl ?_
    refine aw_icmp_eq (tg := 57) (n := 45) dX8_parts_42 (by decide) rfl (fun c_42 => by first | exact absurd rfl c_42 | exact absurd c_42 (by decide)) (fun _ => ?_)
    refine aw_iload_n (n := 46) dX8_parts_45 rfl rfl ?_
    refine aw_bipush (n := 48) (v := 15) dX8_parts_46 (by decide) rfl ?_
    refine aw_icmp_eq (tg := 57) (n := 51) dX8_parts_48 (by decide) rfl (fun c_48 => by first | exact absurd rfl c_48 | exact absurd c_48 (by decide)) (fun _ => ?_)
    refine aw_iload_n (n := 52) dX8_parts_51 rfl rfl ?_
    refine aw_bipush (n := 54) (v := 19) dX8_parts_52 (by decide) rfl ?_
    refine aw_icmp_ne (tg := 61) (n := 57) dX8_parts_54 (by decide) rfl (fun _ => ?_) (fun c_54 => by first | exact absurd rfl c_54 | exact absurd c_54 (by decide))
    refine aw_iconst (n := 62) (v := 2) dX8_parts_61 (by decide) rfl ?_
    refine aw_iret dX8_parts_62 rfl ?_
    exact hQ
  · refine aw_iload_n (n := 1) dX8_parts_0 rfl rfl ?_
    refine aw_iconst (n := 2) (v := 3) dX8_parts_1 (by decide) rfl ?_
    refine aw_icmp_ge (tg := 7) (n := 5) dX8_parts_2 (by decide) rfl (fun _ => ?_) (fun c_2 => by first | exact absurd rfl c_2 | exact absurd c_2 (by decide))
    refine aw_iload_n (n := 8) dX8_parts_7 rfl rfl ?_
    refine aw_bipush (n := 10) (v := 11) dX8_parts_8 (by decide) rfl ?_
    refine aw_icmp_eq (tg := 37) (n := 13) dX8_parts_10 (by decide) rfl (fun c_10 => by first | exact absurd rfl c_10 | exact absurd c_10 (by decide)) (fun _ => ?_)
    refine aw_iload_n (n := 14) dX8_parts_13 rfl rfl ?_
    refine aw_bipush (n := 16) (v := 12) dX8_parts_14 (by decide) rfl ?_
    refine aw_icmp_eq (tg := 37) (n := 19) dX8_parts_16 (by decide) rfl (fun c_16 => by first | exact absurd rfl c_16 | exact absurd c_16 (by decide)) (fun _ => ?_)
    refine aw_iload_n (n := 20) dX8_parts_19 rfl rfl ?_
    refine aw_bipush (n := 22) (v := 16) dX8_parts_20 (by decide) rfl ?_
    refine aw_icmp_eq (tg := 37) (n := 25) dX8_parts_22 (by decide) rfl (fun c_22 => by first | exact absurd rfl c_22 | exact absurd c_22 (by decide)) (fun _ => ?_)
    refine aw_iload_n (n := 26) dX8_parts_25 rfl rfl ?_
    refine aw_bipush (n := 28) (v := 17) dX8_parts_26 (by decide) rfl ?_
    refine aw_icmp_eq (tg := 37) (n := 31) dX8_parts_28 (by decide) rfl (fun c_28 => by first | exact absurd rfl c_28 | exact absurd c_28 (by decide)) (fun _ => ?_)
    refine aw_iload_n (n := 32) dX8_parts_31 rfl rfl ?_
    refine aw_bipush (n := 34) (v := 18) dX8_parts_32 (by decide) rfl ?_
    refine aw_icmp_ne (tg := 39) (n := 37) dX8_parts_34 (by decide) rfl (fun _ => ?_) (fun c_34 => by first | exact absurd rfl c_34 | exact absurd c_34 (by decide))
    refine aw_iload_n (n := 40) dX8_parts_39 rfl rfl ?_
    refine aw_bipush (n := 42) (v := 13) dX8_parts_40 (by decide) rfl ?_
    refine aw_icmp_eq (tg := 57) (n := 45) dX8_parts_42 (by decide) rfl (fun c_42 => by first | exact absurd rfl c_42 | exact absurd c_42 (by decide)) (fun _ => ?_)
    refine aw_iload_n (n := 46) dX8_parts_45 rfl rfl ?_
    refine aw_bipush (n := 48) (v := 15) dX8_parts_46 (by decide) rfl ?_
    refine aw_icmp_eq (tg := 57) (n := 51) dX8_parts_48 (by decide) rfl (fun c_48 => by first | exact absurd rfl c_48 | exact absurd c_48 (by decide)) (fun _ => ?_)
    refine aw_iload_n (n := 52) dX8_parts_51 rfl rfl ?_
    refine aw_bipush (n := 54) (v := 19) dX8_parts_52 (by decide) rfl ?_
    refine aw_icmp_ne (tg := 61) (n := 57) dX8_parts_54 (by decide) rfl (fun _ => ?_) (fun c_54 => by first | exact absurd rfl c_54 | exact absurd c_54 (by decide))
    refine aw_iconst (n := 62) (v := 2) dX8_parts_61 (by decide) rfl ?_
    refine aw_iret dX8_parts_62 rfl ?_
    exact hQ
  · refine aw_iload_n (n := 1) dX8_parts_0 rfl rfl ?_
    refine aw_iconst (n := 2) (v := 3) dX8_parts_1 (by decide) rfl ?_
    refine aw_icmp_ge (tg := 7) (n := 5) dX8_parts_2 (by decide) rfl (fun _ => ?_) (fun c_2 => by first | exact absurd rfl c_2 | exact absurd c_2 (by decide))
    refine aw_iload_n (n := 8) dX8_parts_7 rfl rfl ?_
    refine aw_bipush (n := 10) (v := 11) dX8_parts_8 (by decide) rfl ?_
    refine aw_icmp_eq (tg := 37) (n := 13) dX8_parts_10 (by decide) rfl (fun c_10 => by first | exact absurd rfl c_10 | exact absurd c_10 (by decide)) (fun _ => ?_)
    refine aw_iload_n (n := 14) dX8_parts_13 rfl rfl ?_
    refine aw_bipush (n := 16) (v := 12) dX8_parts_14 (by decide) rfl ?_
    refine aw_icmp_eq (tg := 37) (n := 19) dX8_parts_16 (by decide) rfl (fun c_16 => by first | exact absurd rfl c_16 | exact absurd c_16 (by decide)) (fun _ => ?_)
    refine aw_iload_n (n := 20) dX8_parts_19 rfl rfl ?_
    refine aw_bipush (n := 22) (v := 16) dX8_parts_20 (by decide) rfl ?_
    refine aw_icmp_eq (tg := 37) (n := 25) dX8_parts_22 (by decide) rfl (fun c_22 => by first | exact absurd rfl c_22 | exact absurd c_22 (by decide)) (fun _ => ?_)
    refine aw_iload_n (n := 26) dX8_parts_25 rfl rfl ?_
    refine aw_bipush (n := 28) (v := 17) dX8_parts_26 (by decide) rfl ?_
    refine aw_icmp_eq (tg := 37) (n := 31) dX8_parts_28 (by decide) rfl (fun c_28 => by first | exact absurd rfl c_28 | exact absurd c_28 (by decide)) (fun _ => ?_)
    refine aw_iload_n (n := 32) dX8_parts_31 rfl rfl ?_
    refine aw_bipush (n := 34) (v := 18) dX8_parts_32 (by decide) rfl ?_
    refine aw_icmp_ne (tg := 39) (n := 37) dX8_parts_34 (by decide) rfl (fun _ => ?_) (fun c_34 => by first | exact absurd rfl c_34 | exact absurd c_34 (by decide))
    refine aw_iload_n (n := 40) dX8_parts_39 rfl rfl ?_
    refine aw_bipush (n := 42) (v := 13) dX8_parts_40 (by decide) rfl ?_
    refine aw_icmp_eq (tg := 57) (n := 45) dX8_parts_42 (by decide) rfl (fun c_42 => by first | exact absurd rfl c_42 | exact absurd c_42 (by decide)) (fun _ => ?_)
    refine aw_iload_n (n := 46) dX8_parts_45 rfl rfl ?_
    refine aw_bipush (n := 48) (v := 15) dX8_parts_46 (by decide) rfl ?_
    refine aw_icmp_eq (tg := 57) (n := 51) dX8_parts_48 (by decide) rfl (fun c_48 => by first | exact absurd rfl c_48 | exact absurd c_48 (by decide)) (fun _ => ?_)
    refine aw_iload_n (n := 52) dX8_parts_51 rfl rfl ?_
    refine aw_bipush (n := 54) (v := 19) dX8_parts_52 (by decide) rfl ?_
    refine aw_icmp_ne (tg := 61) (n := 57) dX8_parts_54 (by decide) rfl (fun _ => ?_) (fun c_54 => by first | exact absurd rfl c_54 | exact absurd c_54 (by decide))
    refine aw_iconst (n := 62) (v := 2) dX8_parts_61 (by decide) rfl ?_
    refine aw_iret dX8_parts_62 rfl ?_
    exact hQ
  · refine aw_iload_n (n := 1) dX8_parts_0 rfl rfl ?_
    refine aw_iconst (n := 2) (v := 3) dX8_parts_1 (by decide) rfl ?_
    refine aw_icmp_ge (tg := 7) (n := 5) dX8_parts_2 (by decide) rfl (fun _ => ?_) (fun c_2 => by first | exact absurd rfl c_2 | exact absurd c_2 (by decide))
    refine aw_iload_n (n := 8) dX8_parts_7 rfl rfl ?_
    refine aw_bipush (n := 10) (v := 11) dX8_parts_8 (by decide) rfl ?_
    refine aw_icmp_eq (tg := 37) (n := 13) dX8_parts_10 (by decide) rfl (fun c_10 => by first | exact absurd rfl c_10 | exact absurd c_10 (by decide)) (fun _ => ?_)
    refine aw_iload_n (n := 14) dX8_parts_13 rfl rfl ?_
    refine aw_bipush (n := 16) (v := 12) dX8_parts_14 (by decide) rfl ?_
    refine aw_icmp_eq (tg := 37) (n := 19) dX8_parts_16 (by decide) rfl (fun c_16 => by first | exact absurd rfl c_16 | exact absurd c_16 (by decide)) (fun _ => ?_)
    refine aw_iload_n (n := 20) dX8_parts_19 rfl rfl ?_
    refine aw_bipush (n := 22) (v := 16) dX8_parts_20 (by decide) rfl ?_
    refine aw_icmp_eq (tg := 37) (n := 25) dX8_parts_22 (by decide) rfl (fun c_22 => by first | exact absurd rfl c_22 | exact absurd c_22 (by decide)) (fun _ => ?_)
    refine aw_iload_n (n := 26) dX8_parts_25 rfl rfl ?_
    refine aw_bipush (n := 28) (v := 17) dX8_parts_26 (by decide) rfl ?_
    refine aw_icmp_eq (tg := 37) (n := 31) dX8_parts_28 (by decide) rfl (fun c_28 => by first | exact absurd rfl c_28 | exact absurd c_28 (by decide)) (fun _ => ?_)
    refine aw_iload_n (n := 32) dX8_parts_31 rfl rfl ?_
    refine aw_bipush (n := 34) (v := 18) dX8_parts_32 (by decide) rfl ?_
    refine aw_icmp_ne (tg := 39) (n := 37) dX8_parts_34 (by decide) rfl (fun _ => ?_) (fun c_34 => by first | exact absurd rfl c_34 | exact absurd c_34 (by decide))
    refine aw_iload_n (n := 40) dX8_parts_39 rfl rfl ?_
    refine aw_bipush (n := 42) (v := 13) dX8_parts_40 (by decide) rfl ?_
    refine aw_icmp_eq (tg := 57) (n := 45) dX8_parts_42 (by decide) rfl (fun c_42 => by first | exact absurd rfl c_42 | exact absurd c_42 (by decide)) (fun _ => ?_)
    refine aw_iload_n (n := 46) dX8_parts_45 rfl rfl ?_
    refine aw_bipush (n := 48) (v := 15) dX8_parts_46 (by decide) rfl ?_
    refine aw_icmp_eq (tg := 57) (n := 51) dX8_parts_48 (by decide) rfl (fun c_48 => by first | exact absurd rfl c_48 | exact absurd c_48 (by decide)) (fun _ => ?_)
    refine aw_iload_n (n := 52) dX8_parts_51 rfl rfl ?_
    refine aw_bipush (n := 54) (v := 19) dX8_parts_52 (by decide) rfl ?_
    refine aw_icmp_ne (tg := 61) (n := 57) dX8_parts_54 (by decide) rfl (fun _ => ?_) (fun c_54 => by first | exact absurd rfl c_54 | exact absurd c_54 (by decide))
    refine aw_iconst (n := 62) (v := 2) dX8_parts_61 (by decide) rfl ?_
    refine aw_iret dX8_parts_62 rfl ?_
    exact hQ
  · refine aw_iload_n (n := 1) dX8_parts_0 rfl rfl ?_
    refine aw_iconst (n := 2) (v := 3) dX8_parts_1 (by decide) rfl ?_
    refine aw_icmp_ge (tg := 7) (n := 5) dX8_parts_2 (by decide) rfl (fun _ => ?_) (fun c_2 => by first | exact absurd rfl c_2 | exact absurd c_2 (by decide))
    refine aw_iload_n (n := 8) dX8_parts_7 rfl rfl ?_
    refine aw_bipush (n := 10) (v := 11) dX8_parts_8 (by decide) rfl ?_
    refine aw_icmp_eq (tg := 37) (n := 13) dX8_parts_10 (by decide) rfl (fun c_10 => by first | exact absurd rfl c_10 | exact absurd c_10 (by decide)) (fun _ => ?_)
    refine aw_iload_n (n := 14) dX8_parts_13 rfl rfl ?_
    refine aw_bipush (n := 16) (v := 12) dX8_parts_14 (by decide) rfl ?_
    refine aw_icmp_eq (tg := 37) (n := 19) dX8_parts_16 (by decide) rfl (fun c_16 => by first | exact absurd rfl c_16 | exact absurd c_16 (by decide)) (fun _ => ?_)
    refine aw_iload_n (n := 20) dX8_parts_19 rfl rfl ?_
    refine aw_bipush (n := 22) (v := 16) dX8_parts_20 (by decide) rfl ?_
    refine aw_icmp_eq (tg := 37) (n := 25) dX8_parts_22 (by decide) rfl (fun c_22 => by first | exact absurd rfl c_22 | exact absurd c_22 (by decide)) (fun _ => ?_)
    refine aw_iload_n (n := 26) dX8_parts_25 rfl rfl ?_
    refine aw_bipush (n := 28) (v := 17) dX8_parts_26 (by decide) rfl ?_
    refine aw_icmp_eq (tg := 37) (n := 31) dX8_parts_28 (by decide) rfl (fun c_28 => by first | exact absurd rfl c_28 | exact absurd c_28 (by decide)) (fun _ => ?_)
    refine aw_iload_n (n := 32) dX8_parts_31 rfl rfl ?_
    refine aw_bipush (n := 34) (v := 18) dX8_parts_32 (by decide) rfl ?_
    refine aw_icmp_ne (tg := 39) (n := 37) dX8_parts_34 (by decide) rfl (fun _ => ?_) (fun c_34 => by first | exact absurd rfl c_34 | exact absurd c_34 (by decide))
    refine aw_iload_n (n := 40) dX8_parts_39 rfl rfl ?_
    refine aw_bipush (n := 42) (v := 13) dX8_parts_40 (by decide) rfl ?_
    refine aw_icmp_eq (tg := 57) (n := 45) dX8_parts_42 (by decide) rfl (fun c_42 => by first | exact absurd rfl c_42 | exact absurd c_42 (by decide)) (fun _ => ?_)
    refine aw_iload_n (n := 46) dX8_parts_45 rfl rfl ?_
    refine aw_bipush (n := 48) (v := 15) dX8_parts_46 (by decide) rfl ?_
    refine aw_icmp_eq (tg := 57) (n := 51) dX8_parts_48 (by decide) rfl (fun c_48 => by first | exact absurd rfl c_48 | exact absurd c_48 (by decide)) (fun _ => ?_)
    refine aw_iload_n (n := 52) dX8_parts_51 rfl rfl ?_
    refine aw_bipush (n := 54) (v := 19) dX8_parts_52 (by decide) rfl ?_
    refine aw_icmp_ne (tg := 61) (n := 57) dX8_parts_54 (by decide) rfl (fun _ => ?_) (fun c_54 => by first | exact absurd rfl c_54 | exact absurd c_54 (by decide))
    refine aw_iconst (n := 62) (v := 2) dX8_parts_61 (by decide) rfl ?_
    refine aw_iret dX8_parts_62 rfl ?_
    exact hQ
  · refine aw_iload_n (n := 1) dX8_parts_0 rfl rfl ?_
    refine aw_iconst (n := 2) (v := 3) dX8_parts_1 (by decide) rfl ?_
    refine aw_icmp_ge (tg := 7) (n := 5) dX8_parts_2 (by decide) rfl (fun _ => ?_) (fun c_2 => by first | exact absurd rfl c_2 | exact absurd c_2 (by decide))
    refine aw_iload_n (n := 8) dX8_parts_7 rfl rfl ?_
    refine aw_bipush (n := 10) (v := 11) dX8_parts_8 (by decide) rfl ?_
    refine aw_icmp_eq (tg := 37) (n := 13) dX8_parts_10 (by decide) rfl (fun _ => ?_) (fun c_10 => by first | exact absurd rfl c_10 | exact absurd c_10 (by decide))
    refine aw_iconst (n := 38) (v := 1) dX8_parts_37 (by decide) rfl ?_
    refine aw_iret dX8_parts_38 rfl ?_
    exact hQ
  · refine aw_iload_n (n := 1) dX8_parts_0 rfl rfl ?_
    refine aw_iconst (n := 2) (v := 3) dX8_parts_1 (by decide) rfl ?_
    refine aw_icmp_ge (tg := 7) (n := 5) dX8_parts_2 (by decide) rfl (fun _ => ?_) (fun c_2 => by first | exact absurd rfl c_2 | exact absurd c_2 (by decide))
    refine aw_iload_n (n := 8) dX8_parts_7 rfl rfl ?_
    refine aw_bipush (n := 10) (v := 11) dX8_parts_8 (by decide) rfl ?_
    refine aw_icmp_eq (tg := 37) (n := 13) dX8_parts_10 (by decide) rfl (fun c_10 => by first | exact absurd rfl c_10 | exact absurd c_10 (by decide)) (fun _ => ?_)
    refine aw_iload_n (n := 14) dX8_parts_13 rfl rfl ?_
    refine aw_bipush (n := 16) (v := 12) dX8_parts_14 (by decide) rfl ?_
    refine aw_icmp_eq (tg := 37) (n := 19) dX8_parts_16 (by decide) rfl (fun _ => ?_) (fun c_16 => by first | exact absurd rfl c_16 | exact absurd c_16 (by decide))
    refine aw_iconst (n := 38) (v := 1) dX8_parts_37 (by decide) rfl ?_
    refine aw_iret dX8_parts_38 rfl ?_
    exact hQ
  · refine aw_iload_n (n := 1) dX8_parts_0 rfl rfl ?_
    refine aw_iconst (n := 2) (v := 3) dX8_parts_1 (by decide) rfl ?_
    refine aw_icmp_ge (tg := 7) (n := 5) dX8_parts_2 (by decide) rfl (fun _ => ?_) (fun c_2 => by first | exact absurd rfl c_2 | exact absurd c_2 (by decide))
    refine aw_iload_n (n := 8) dX8_parts_7 rfl rfl ?_
    refine aw_bipush (n := 10) (v := 11) dX8_parts_8 (by decide) rfl ?_
    refine aw_icmp_eq (tg := 37) (n := 13) dX8_parts_10 (by decide) rfl (fun c_10 => by first | exact absurd rfl c_10 | exact absurd c_10 (by decide)) (fun _ => ?_)
    refine aw_iload_n (n := 14) dX8_parts_13 rfl rfl ?_
    refine aw_bipush (n := 16) (v := 12) dX8_parts_14 (by decide) rfl ?_
    refine aw_icmp_eq (tg := 37) (n := 19) dX8_parts_16 (by decide) rfl (fun c_16 => by first | exact absurd rfl c_16 | exact absurd c_16 (by decide)) (fun _ => ?_)
    refine aw_iload_n (n := 20) dX8_parts_19 rfl rfl ?_
    refine aw_bipush (n := 22) (v := 16) dX8_parts_20 (by decide) rfl ?_
    refine aw_icmp_eq (tg := 37) (n := 25) dX8_parts_22 (by decide) rfl (fun c_22 => by first | exact absurd rfl c_22 | exact absurd c_22 (by decide)) (fun _ => ?_)
    refine aw_iload_n (n := 26) dX8_parts_25 rfl rfl ?_
    refine aw_bipush (n := 28) (v := 17) dX8_parts_26 (by decide) rfl ?_
    refine aw_icmp_eq (tg := 37) (n := 31) dX8_parts_28 (by decide) rfl (fun c_28 => by first | exact absurd rfl c_28 | exact absurd c_28 (by decide)) (fun _ => ?_)
    refine aw_iload_n (n := 32) dX8_parts_31 rfl rfl ?_
    refine aw_bipush (n := 34) (v := 18) dX8_parts_32 (by decide) rfl ?_
    refine aw_icmp_ne (tg := 39) (n := 37) dX8_parts_34 (by decide) rfl (fun _ => ?_) (fun c_34 => by first | exact absurd rfl c_34 | exact absurd c_34 (by decide))
    refine aw_iload_n (n := 40) dX8_parts_39 rfl rfl ?_
    refine aw_bipush (n := 42) (v := 13) dX8_parts_40 (by decide) rfl ?_
    refine aw_icmp_eq (tg := 57) (n := 45) dX8_parts_42 (by decide) rfl (fun _ => ?_) (fun c_42 => by first | exact absurd rfl c_42 | exact absurd c_42 (by decide))
    refine aw_iconst (n := 58) (v := 3) dX8_parts_57 (by decide) rfl ?_
    refine aw_goto (n := 62) dX8_parts_58 (by decide) ?_
    refine aw_iret dX8_parts_62 rfl ?_
    exact hQ
  · refine aw_iload_n (n := 1) dX8_parts_0 rfl rfl ?_
    refine aw_iconst (n := 2) (v := 3) dX8_parts_1 (by decide) rfl ?_
    refine aw_icmp_ge (tg := 7) (n := 5) dX8_parts_2 (by decide) rfl (fun _ => ?_) (fun c_2 => by first | exact absurd rfl c_2 | exact absurd c_2 (by decide))
    refine aw_iload_n (n := 8) dX8_parts_7 rfl rfl ?_
    refine aw_bipush (n := 10) (v := 11) dX8_parts_8 (by decide) rfl ?_
    refine aw_icmp_eq (tg := 37) (n := 13) dX8_parts_10 (by decide) rfl (fun c_10 => by first | exact absurd rfl c_10 | exact absurd c_10 (by decide)) (fun _ => ?_)
    refine aw_iload_n (n := 14) dX8_parts_13 rfl rfl ?_
    refine aw_bipush (n := 16) (v := 12) dX8_parts_14 (by decide) rfl ?_
    refine aw_icmp_eq (tg := 37) (n := 19) dX8_parts_16 (by decide) rfl (fun c_16 => by first | exact absurd rfl c_16 | exact absurd c_16 (by decide)) (fun _ => ?_)
    refine aw_iload_n (n := 20) dX8_parts_19 rfl rfl ?_
    refine aw_bipush (n := 22) (v := 16) dX8_parts_20 (by decide) rfl ?_
    refine aw_icmp_eq (tg := 37) (n := 25) dX8_parts_22 (by decide) rfl (fun c_22 => by first | exact absurd rfl c_22 | exact absurd c_22 (by decide)) (fun _ => ?_)
    refine aw_iload_n (n := 26) dX8_parts_25 rfl rfl ?_
    refine aw_bipush (n := 28) (v := 17) dX8_parts_26 (by decide) rfl ?_
    refine aw_icmp_eq (tg := 37) (n := 31) dX8_parts_28 (by decide) rfl (fun c_28 => by first | exact absurd rfl c_28 | exact absurd c_28 (by decide)) (fun _ => ?_)
    refine aw_iload_n (n := 32) dX8_parts_31 rfl rfl ?_
    refine aw_bipush (n := 34) (v := 18) dX8_parts_32 (by decide) rfl ?_
    refine aw_icmp_ne (tg := 39) (n := 37) dX8_parts_34 (by decide) rfl (fun _ => ?_) (fun c_34 => by first | exact absurd rfl c_34 | exact absurd c_34 (by decide))
    refine aw_iload_n (n := 40) dX8_parts_39 rfl rfl ?_
    refine aw_bipush (n := 42) (v := 13) dX8_parts_40 (by decide) rfl ?_
    refine aw_icmp_eq (tg := 57) (n := 45) dX8_parts_42 (by decide) rfl (fun c_42 => by first | exact absurd rfl c_42 | exact absurd c_42 (by decide)) (fun _ => ?_)
    refine aw_iload_n (n := 46) dX8_parts_45 rfl rfl ?_
    refine aw_bipush (n := 48) (v := 15) dX8_parts_46 (by decide) rfl ?_
    refine aw_icmp_eq (tg := 57) (n := 51) dX8_parts_48 (by decide) rfl (fun c_48 => by first | exact absurd rfl c_48 | exact absurd c_48 (by decide)) (fun _ => ?_)
    refine aw_iload_n (n := 52) dX8_parts_51 rfl rfl ?_
    refine aw_bipush (n := 54) (v := 19) dX8_parts_52 (by decide) rfl ?_
    refine aw_icmp_ne (tg := 61) (n := 57) dX8_parts_54 (by decide) rfl (fun _ => ?_) (fun c_54 => by first | exact absurd rfl c_54 | exact absurd c_54 (by decide))
    refine aw_iconst (n := 62) (v := 2) dX8_parts_61 (by decide) rfl ?_
    refine aw_iret dX8_parts_62 rfl ?_
    exact hQ
  · refine aw_iload_n (n := 1) dX8_parts_0 rfl rfl ?_
    refine aw_iconst (n := 2) (v := 3) dX8_parts_1 (by decide) rfl ?_
    refine aw_icmp_ge (tg := 7) (n := 5) dX8_parts_2 (by decide) rfl (fun _ => ?_) (fun c_2 => by first | exact absurd rfl c_2 | exact absurd c_2 (by decide))
    refine aw_iload_n (n := 8) dX8_parts_7 rfl rfl ?_
    refine aw_bipush (n := 10) (v := 11) dX8_parts_8 (by decide) rfl ?_
    refine aw_icmp_eq (tg := 37) (n := 13) dX8_parts_10 (by decide) rfl (fun c_10 => by first | exact absurd rfl c_10 | exact absurd c_10 (by decide)) (fun _ => ?_)
    refine aw_iload_n (n := 14) dX8_parts_13 rfl rfl ?_
    refine aw_bipush (n := 16) (v := 12) dX8_parts_14 (by decide) rfl ?_
    refine aw_icmp_eq (tg := 37) (n := 19) dX8_parts_16 (by decide) rfl (fun c_16 => by first | exact absurd rfl c_16 | exact absurd c_16 (by decide)) (fun _ => ?_)
    refine aw_iload_n (n := 20) dX8_parts_19 rfl rfl ?_
    refine aw_bipush (n := 22) (v := 16) dX8_parts_20 (by decide) rfl ?_
    refine aw_icmp_eq (tg := 37) (n := 25) dX8_parts_22 (by decide) rfl (fun c_22 => by first | exact absurd rfl c_22 | exact absurd c_22 (by decide)) (fun _ => ?_)
    refine aw_iload_n (n := 26) dX8_parts_25 rfl rfl ?_
    refine aw_bipush (n := 28) (v := 17) dX8_parts_26 (by decide) rfl ?_
    refine aw_icmp_eq (tg := 37) (n := 31) dX8_parts_28 (by decide) rfl (fun c_28 => by first | exact absurd rfl c_28 | exact absurd c_28 (by decide)) (fun _ => ?_)
    refine aw_iload_n (n := 32) dX8_parts_31 rfl rfl ?_
    refine aw_bipush (n := 34) (v := 18) dX8_parts_32 (by decide) rfl ?_
    refine aw_icmp_ne (tg := 39) (n := 37) dX8_parts_34 (by decide) rfl (fun _ => ?_) (fun c_34 => by first | exact absurd rfl c_34 | exact absurd c_34 (by decide))
    refine aw_iload_n (n := 40) dX8_parts_39 rfl rfl ?_
    refine aw_bipush (n := 42) (v := 13) dX8_parts_40 (by decide) rfl ?_
    refine aw_icmp_eq (tg := 57) (n := 45) dX8_parts_42 (by decide) rfl (fun c_42 => by first | exact absurd rfl c_42 | exact absurd c_42 (by decide)) (fun _ => ?_)
    refine aw_iload_n (n := 46) dX8_parts_45 rfl rfl ?_
    refine aw_bipush (n := 48) (v := 15) dX8_parts_46 (by decide) rfl ?_
    refine aw_icmp_eq (tg := 57) (n := 51) dX8_parts_48 (by decide) rfl (fun _ => ?_) (fun c_48 => by first | exact absurd rfl c_48 | exact absurd c_48 (by decide))
    refine aw_iconst (n := 58) (v := 3) dX8_parts_57 (by decide) rfl ?_
    refine aw_goto (n := 62) dX8_parts_58 (by decide) ?_
    refine aw_iret dX8_parts_62 rfl ?_
    exact hQ
  · refine aw_iload_n (n := 1) dX8_parts_0 rfl rfl ?_
    refine aw_iconst (n := 2) (v := 3) dX8_parts_1 (by decide) rfl ?_
    refine aw_icmp_ge (tg := 7) (n := 5) dX8_parts_2 (by decide) rfl (fun _ => ?_) (fun c_2 => by first | exact absurd rfl c_2 | exact absurd c_2 (by decide))
    refine aw_iload_n (n := 8) dX8_parts_7 rfl rfl ?_
    refine aw_bipush (n := 10) (v := 11) dX8_parts_8 (by decide) rfl ?_
    refine aw_icmp_eq (tg := 37) (n := 13) dX8_parts_10 (by decide) rfl (fun c_10 => by first | exact absurd rfl c_10 | exact absurd c_10 (by decide)) (fun _ => ?_)
    refine aw_iload_n (n := 14) dX8_parts_13 rfl rfl ?_
    refine aw_bipush (n := 16) (v := 12) dX8_parts_14 (by decide) rfl ?_
    refine aw_icmp_eq (tg := 37) (n := 19) dX8_parts_16 (by decide) rfl (fun c_16 => by first | exact absurd rfl c_16 | exact absurd c_16 (by decide)) (fun _ => ?_)
    refine aw_iload_n (n := 20) dX8_parts_19 rfl rfl ?_
    refine aw_bipush (n := 22) (v := 16) dX8_parts_20 (by decide) rfl ?_
    refine aw_icmp_eq (tg := 37) (n := 25) dX8_parts_22 (by decide) rfl (fun _ => ?_) (fun c_22 => by first | exact absurd rfl c_22 | exact absurd c_22 (by decide))
    refine aw_iconst (n := 38) (v := 1) dX8_parts_37 (by decide) rfl ?_
    refine aw_iret dX8_parts_38 rfl ?_
    exact hQ
  · refine aw_iload_n (n := 1) dX8_parts_0 rfl rfl ?_
    refine aw_iconst (n := 2) (v := 3) dX8_parts_1 (by decide) rfl ?_
    refine aw_icmp_ge (tg := 7) (n := 5) dX8_parts_2 (by decide) rfl (fun _ => ?_) (fun c_2 => by first | exact absurd rfl c_2 | exact absurd c_2 (by decide))
    refine aw_iload_n (n := 8) dX8_parts_7 rfl rfl ?_
    refine aw_bipush (n := 10) (v := 11) dX8_parts_8 (by decide) rfl ?_
    refine aw_icmp_eq (tg := 37) (n := 13) dX8_parts_10 (by decide) rfl (fun c_10 => by first | exact absurd rfl c_10 | exact absurd c_10 (by decide)) (fun _ => ?_)
    refine aw_iload_n (n := 14) dX8_parts_13 rfl rfl ?_
    refine aw_bipush (n := 16) (v := 12) dX8_parts_14 (by decide) rfl ?_
    refine aw_icmp_eq (tg := 37) (n := 19) dX8_parts_16 (by decide) rfl (fun c_16 => by first | exact absurd rfl c_16 | exact absurd c_16 (by decide)) (fun _ => ?_)
    refine aw_iload_n (n := 20) dX8_parts_19 rfl rfl ?_
    refine aw_bipush (n := 22) (v := 16) dX8_parts_20 (by decide) rfl ?_
    refine aw_icmp_eq (tg := 37) (n := 25) dX8_parts_22 (by decide) rfl (fun c_22 => by first | exact absurd rfl c_22 | exact absurd c_22 (by decide)) (fun _ => ?_)
    refine aw_iload_n (n := 26) dX8_parts_25 rfl rfl ?_
    refine aw_bipush (n := 28) (v := 17) dX8_parts_26 (by decide) rfl ?_
    refine aw_icmp_eq (tg := 37) (n := 31) dX8_parts_28 (by decide) rfl (fun _ => ?_) (fun c_28 => by first | exact absurd rfl c_28 | exact absurd c_28 (by decide))
    refine aw_iconst (n := 38) (v := 1) dX8_parts_37 (by decide) rfl ?_
    refine aw_iret dX8_parts_38 rfl ?_
    exact hQ
  · refine aw_iload_n (n := 1) dX8_parts_0 rfl rfl ?_
    refine aw_iconst (n := 2) (v := 3) dX8_parts_1 (by decide) rfl ?_
    refine aw_icmp_ge (tg := 7) (n := 5) dX8_parts_2 (by decide) rfl (fun _ => ?_) (fun c_2 => by first | exact absurd rfl c_2 | exact absurd c_2 (by decide))
    refine aw_iload_n (n := 8) dX8_parts_7 rfl rfl ?_
    refine aw_bipush (n := 10) (v := 11) dX8_parts_8 (by decide) rfl ?_
    refine aw_icmp_eq (tg := 37) (n := 13) dX8_parts_10 (by decide) rfl (fun c_10 => by first | exact absurd rfl c_10 | exact absurd c_10 (by decide)) (fun _ => ?_)
    refine aw_iload_n (n := 14) dX8_parts_13 rfl rfl ?_
    refine aw_bipush (n := 16) (v := 12) dX8_parts_14 (by decide) rfl ?_
    refine aw_icmp_eq (tg := 37) (n := 19) dX8_parts_16 (by decide) rfl (fun c_16 => by first | exact absurd rfl c_16 | exact absurd c_16 (by decide)) (fun _ => ?_)
    refine aw_iload_n (n := 20) dX8_parts_19 rfl rfl ?_
    refine aw_bipush (n := 22) (v := 16) dX8_parts_20 (by decide) rfl ?_
    refine aw_icmp_eq (tg := 37) (n := 25) dX8_parts_22 (by decide) rfl (fun c_22 => by first | exact absurd rfl c_22 | exact absurd c_22 (by decide)) (fun _ => ?_)
    refine aw_iload_n (n := 26) dX8_parts_25 rfl rfl ?_
    refine aw_bipush (n := 28) (v := 17) dX8_parts_26 (by decide) rfl ?_
    refine aw_icmp_eq (tg := 37) (n := 31) dX8_parts_28 (by decide) rfl (fun c_28 => by first | exact absurd rfl c_28 | exact absurd c_28 (by decide)) (fun _ => ?_)
    refine aw_iload_n (n := 32) dX8_parts_31 rfl rfl ?_
    refine aw_bipush (n := 34) (v := 18) dX8_parts_32 (by decide) rfl ?_
    refine aw_icmp_ne (tg := 39) (n := 37) dX8_parts_34 (by decide) rfl (fun c_34 => by first | exact absurd rfl c_34 | exact absurd c_34 (by decide)) (fun _ => ?_)
    refine aw_iconst (n := 38) (v := 1) dX8_parts_37 (by decide) rfl ?_
    refine aw_iret dX8_parts_38 rfl ?_
    exact hQ
  · refine aw_iload_n (n := 1) dX8_parts_0 rfl rfl ?_
    refine aw_iconst (n := 2) (v := 3) dX8_parts_1 (by decide) rfl ?_
    refine aw_icmp_ge (tg := 7) (n := 5) dX8_parts_2 (by decide) rfl (fun _ => ?_) (fun c_2 => by first | exact absurd rfl c_2 | exact absurd c_2 (by decide))
    refine aw_iload_n (n := 8) dX8_parts_7 rfl rfl ?_
    refine aw_bipush (n := 10) (v := 11) dX8_parts_8 (by decide) rfl ?_
    refine aw_icmp_eq (tg := 37) (n := 13) dX8_parts_10 (by decide) rfl (fun c_10 => by first | exact absurd rfl c_10 | exact absurd c_10 (by decide)) (fun _ => ?_)
    refine aw_iload_n (n := 14) dX8_parts_13 rfl rfl ?_
    refine aw_bipush (n := 16) (v := 12) dX8_parts_14 (by decide) rfl ?_
    refine aw_icmp_eq (tg := 37) (n := 19) dX8_parts_16 (by decide) rfl (fun c_16 => by first | exact absurd rfl c_16 | exact absurd c_16 (by decide)) (fun _ => ?_)
    refine aw_iload_n (n := 20) dX8_parts_19 rfl rfl ?_
    refine aw_bipush (n := 22) (v := 16) dX8_parts_20 (by decide) rfl ?_
    refine aw_icmp_eq (tg := 37) (n := 25) dX8_parts_22 (by decide) rfl (fun c_22 => by first | exact absurd rfl c_22 | exact absurd c_22 (by decide)) (fun _ => ?_)
    refine aw_iload_n (n := 26) dX8_parts_25 rfl rfl ?_
    refine aw_bipush (n := 28) (v := 17) dX8_parts_26 (by decide) rfl ?_
    refine aw_icmp_eq (tg := 37) (n := 31) dX8_parts_28 (by decide) rfl (fun c_28 => by first | exact absurd rfl c_28 | exact absurd c_28 (by decide)) (fun _ => ?_)
    refine aw_iload_n (n := 32) dX8_parts_31 rfl rfl ?_
    refine aw_bipush (n := 34) (v := 18) dX8_parts_32 (by decide) rfl ?_
    refine aw_icmp_ne (tg := 39) (n := 37) dX8_parts_34 (by decide) rfl (fun _ => ?_) (fun c_34 => by first | exact absurd rfl c_34 | exact absurd c_34 (by decide))
    refine aw_iload_n (n := 40) dX8_parts_39 rfl rfl ?_
    refine aw_bipush (n := 42) (v := 13) dX8_parts_40 (by decide) rfl ?_
    refine aw_icmp_eq (tg := 57) (n := 45) dX8_parts_42 (by decide) rfl (fun c_42 => by first | exact absurd rfl c_42 | exact absurd c_42 (by decide)) (fun _ => ?_)
    refine aw_iload_n (n := 46) dX8_parts_45 rfl rfl ?_
    refine aw_bipush (n := 48) (v := 15) dX8_parts_46 (by decide) rfl ?_
    refine aw_icmp_eq (tg := 57) (n := 51) dX8_parts_48 (by decide) rfl (fun c_48 => by first | exact absurd rfl c_48 | exact absurd c_48 (by decide)) (fun _ => ?_)
    refine aw_iload_n (n := 52) dX8_parts_51 rfl rfl ?_
    refine aw_bipush (n := 54) (v := 19) dX8_parts_52 (by decide) rfl ?_
    refine aw_icmp_ne (tg := 61) (n := 57) dX8_parts_54 (by decide) rfl (fun c_54 => by first | exact absurd rfl c_54 | exact absurd c_54 (by decide)) (fun _ => ?_)
    refine aw_iconst (n := 58) (v := 3) dX8_parts_57 (by decide) rfl ?_
    refine aw_goto (n := 62) dX8_parts_58 (by decide) ?_
    refine aw_iret dX8_parts_62 rfl ?_
    exact hQ
  · refine aw_iload_n (n := 1) dX8_parts_0 rfl rfl ?_
    refine aw_iconst (n := 2) (v := 3) dX8_parts_1 (by decide) rfl ?_
    refine aw_icmp_ge (tg := 7) (n := 5) dX8_parts_2 (by decide) rfl (fun _ => ?_) (fun c_2 => by first | exact absurd rfl c_2 | exact absurd c_2 (by decide))
    refine aw_iload_n (n := 8) dX8_parts_7 rfl rfl ?_
    refine aw_bipush (n := 10) (v := 11) dX8_parts_8 (by decide) rfl ?_
    refine aw_icmp_eq (tg := 37) (n := 13) dX8_parts_10 (by decide) rfl (fun c_10 => by first | exact absurd rfl c_10 | exact absurd c_10 (by decide)) (fun _ => ?_)
    refine aw_iload_n (n := 14) dX8_parts_13 rfl rfl ?_
    refine aw_bipush (n := 16) (v := 12) dX8_parts_14 (by decide) rfl ?_
    refine aw_icmp_eq (tg := 37) (n := 19) dX8_parts_16 (by decide) rfl (fun c_16 => by first | exact absurd rfl c_16 | exact absurd c_16 (by decide)) (fun _ => ?_)
    refine aw_iload_n (n := 20) dX8_parts_19 rfl rfl ?_
    refine aw_bipush (n := 22) (v := 16) dX8_parts_20 (by decide) rfl ?_
    refine aw_icmp_eq (tg := 37) (n := 25) dX8_parts_22 (by decide) rfl (fun c_22 => by first | exact absurd rfl c_22 | exact absurd c_22 (by decide)) (fun _ => ?_)
    refine aw_iload_n (n := 26) dX8_parts_25 rfl rfl ?_
    refine aw_bipush (n := 28) (v := 17) dX8_parts_26 (by decide) rfl ?_
    refine aw_icmp_eq (tg := 37) (n := 31) dX8_parts_28 (by decide) rfl (fun c_28 => by first | exact absurd rfl c_28 | exact absurd c_28 (by decide)) (fun _ => ?_)
    refine aw_iload_n (n := 32) dX8_parts_31 rfl rfl ?_
    refine aw_bipush (n := 34) (v := 18) dX8_parts_32 (by decide) rfl ?_
    refine aw_icmp_ne (tg := 39) (n := 37) dX8_parts_34 (by decide) rfl (fun _ => ?_) (fun c_34 => by first | exact absurd rfl c_34 | exact absurd c_34 (by decide))
    refine aw_iload_n (n := 40) dX8_parts_39 rfl rfl ?_
    refine aw_bipush (n := 42) (v := 13) dX8_parts_40 (by decide) rfl ?_
    refine aw_icmp_eq (tg := 57) (n := 45) dX8_parts_42 (by decide) rfl (fun c_42 => by first | exact absurd rfl c_42 | exact absurd c_42 (by decide)) (fun _ => ?_)
    refine aw_iload_n (n := 46) dX8_parts_45 rfl rfl ?_
    refine aw_bipush (n := 48) (v := 15) dX8_parts_46 (by decide) rfl ?_
    refine aw_icmp_eq (tg := 57) (n := 51) dX8_parts_48 (by decide) rfl (fun c_48 => by first | exact absurd rfl c_48 | exact absurd c_48 (by decide)) (fun _ => ?_)
    refine aw_iload_n (n := 52) dX8_parts_51 rfl rfl ?_
    refine aw_bipush (n := 54) (v := 19) dX8_parts_52 (by decide) rfl ?_
    refine aw_icmp_ne (tg := 61) (n := 57) dX8_parts_54 (by decide) rfl (fun _ => ?_) (fun c_54 => by first | exact absurd rfl c_54 | exact absurd c_54 (by decide))
    refine aw_iconst (n := 62) (v := 2) dX8_parts_61 (by decide) rfl ?_
    refine aw_iret dX8_parts_62 rfl ?_
    exact hQ
theorem m_nextE {tt top w i : Nat} (hd : 1 ≤ d) (hw : w ≤ 18) (htt : tt < 60) (htop : top < 61) (hM : M 165 tt = nI w) (hp : M 174 top = nI i) (hi : pts w ≤ i) (hi3 : i ≤ 3) (hQ : Q (some (.int (-1))) EE M) : aw l K mX8_nextPart d 0 0 0 [.ref 164, .int (nI tt), .int (nI top), .null, .null] [] EE M Q := by
  have hin : vp_in (nI tt) 60 := vp_in_nI htt (by decide)
  have htc : (nI tt).toNatClampNeg = tt := nI_clamp (by omega)
  have hit : vp_in (nI top) 61 := vp_in_nI htop (by decide)
  have hic : (nI top).toNatClampNeg = top := nI_clamp (by omega)
  refine aw_aload_n (n := 1) dX8_nextPart_0 rfl rfl ?_
  refine aw_getr (n := 4) dX8_nextPart_1 fX8_37 E_164 rfl rfl ?_
  refine aw_iload_n (n := 5) dX8_nextPart_4 rfl rfl ?_
  refine aw_iald (n := 6) dX8_nextPart_5 E_174 (by assumption) rfl ?_
  rw [hic, hp]
  refine aw_istore_n (n := 7) (L' := [_, _, _, _, _]) dX8_nextPart_6 (Nat.le_of_ble_eq_true rfl) rfl rfl ?_
  refine aw_aload_n (n := 8) dX8_nextPart_7 rfl rfl ?_
  refine aw_getr (n := 11) dX8_nextPart_8 fX8_7 E_164 rfl rfl ?_
  refine aw_iload_n (n := 12) dX8_nextPart_11 rfl rfl ?_
  refine aw_iald (n := 13) dX8_nextPart_12 E_165 (by assumption) rfl ?_
  rw [htc, hM]
  refine aw_istore (n := 15) (L' := [_, _, _, _, _]) dX8_nextPart_13 (Nat.le_of_ble_eq_true rfl) rfl rfl ?_
  refine aw_iload (n := 17) dX8_nextPart_15 rfl rfl ?_
  refine aw_bipush (n := 19) (v := 19) dX8_nextPart_17 (by decide) rfl ?_
  refine aw_icmp_eq (tg := 29) (n := 22) dX8_nextPart_19 (by decide) rfl (fun c_19 => by exact absurd c_19 (fun q => absurd ((nI_eq (b := 19) (by omega) (by omega)).mp q) (by omega))) (fun c_19 => ?_)
  refine aw_iload (n := 24) dX8_nextPart_22 rfl rfl ?_
  refine aw_bipush (n := 26) (v := 20) dX8_nextPart_24 (by decide) rfl ?_
  refine aw_icmp_ne (tg := 37) (n := 29) dX8_nextPart_26 (by decide) rfl (fun c_26 => ?_) (fun c_26 => by exact absurd c_26 (fun q => absurd ((nI_eq (b := 20) (by omega) (by omega)).mp q) (by omega)))
  refine aw_iload_n (n := 38) dX8_nextPart_37 rfl rfl ?_
  refine aw_iload (n := 40) dX8_nextPart_38 rfl rfl ?_
  refine aw_s1 (d1 := d - 1) (n := 43) (Z := mX8_parts) (L0 := [_]) dX8_nextPart_40 kX8_parts gX8_99 syX8_parts rfl (Nat.le_of_ble_eq_true rfl) rfl rfl (by omega) (Nat.le_of_ble_eq_true rfl) (m_parts (by omega) ?_)
  dsimp only [aPush]
  refine aw_icmp_lt (tg := 50) (n := 46) dX8_nextPart_43 (by decide) rfl (fun c_43 => by exact absurd ((nI_ltI (by omega) (by omega)).mp c_43) (by omega)) (fun c_43 => ?_)
  refine aw_iconst (n := 47) (v := -1) dX8_nextPart_46 (by decide) rfl ?_
  refine aw_goto (n := 83) dX8_nextPart_47 (by decide) ?_
  refine aw_iret dX8_nextPart_83 rfl ?_
  exact hQ
theorem m_nextP {tt top w i : Nat} (hd : 1 ≤ d) (hw : w ≤ 18) (htt : tt < 60) (htop : top < 61) (hM : M 165 tt = nI w) (hp : M 174 top = nI i) (hi : i < pts w) (hi3 : i < 3) (hQ : Q (some (.int (M (166 + i) tt))) EE M) : aw l K mX8_nextPart d 0 0 0 [.ref 164, .int (nI tt), .int (nI top), .null, .null] [] EE M Q := by
  have hin : vp_in (nI tt) 60 := vp_in_nI htt (by decide)
  have htc : (nI tt).toNatClampNeg = tt := nI_clamp (by omega)
  have hit : vp_in (nI top) 61 := vp_in_nI htop (by decide)
  have hic : (nI top).toNatClampNeg = top := nI_clamp (by omega)
  have hp3 : pts w ≤ 3 := by have := ptsLe w (by omega); omega
  refine aw_aload_n (n := 1) dX8_nextPart_0 rfl rfl ?_
  refine aw_getr (n := 4) dX8_nextPart_1 fX8_37 E_164 rfl rfl ?_
  refine aw_iload_n (n := 5) dX8_nextPart_4 rfl rfl ?_
  refine aw_iald (n := 6) dX8_nextPart_5 E_174 (by assumption) rfl ?_
  rw [hic, hp]
  refine aw_istore_n (n := 7) (L' := [_, _, _, _, _]) dX8_nextPart_6 (Nat.le_of_ble_eq_true rfl) rfl rfl ?_
  refine aw_aload_n (n := 8) dX8_nextPart_7 rfl rfl ?_
  refine aw_getr (n := 11) dX8_nextPart_8 fX8_7 E_164 rfl rfl ?_
  refine aw_iload_n (n := 12) dX8_nextPart_11 rfl rfl ?_
  refine aw_iald (n := 13) dX8_nextPart_12 E_165 (by assumption) rfl ?_
  rw [htc, hM]
  refine aw_istore (n := 15) (L' := [_, _, _, _, _]) dX8_nextPart_13 (Nat.le_of_ble_eq_true rfl) rfl rfl ?_
  refine aw_iload (n := 17) dX8_nextPart_15 rfl rfl ?_
  refine aw_bipush (n := 19) (v := 19) dX8_nextPart_17 (by decide) rfl ?_
  refine aw_icmp_eq (tg := 29) (n := 22) dX8_nextPart_19 (by decide) rfl (fun c_19 => by exact absurd c_19 (fun q => absurd ((nI_eq (b := 19) (by omega) (by omega)).mp q) (by omega))) (fun c_19 => ?_)
  refine aw_iload (n := 24) dX8_nextPart_22 rfl rfl ?_
  refine aw_bipush (n := 26) (v := 20) dX8_nextPart_24 (by decide) rfl ?_
  refine aw_icmp_ne (tg := 37) (n := 29) dX8_nextPart_26 (by decide) rfl (fun c_26 => ?_) (fun c_26 => by exact absurd c_26 (fun q => absurd ((nI_eq (b := 20) (by omega) (by omega)).mp q) (by omega)))
  refine aw_iload_n (n := 38) dX8_nextPart_37 rfl rfl ?_
  refine aw_iload (n := 40) dX8_nextPart_38 rfl rfl ?_
  refine aw_s1 (d1 := d - 1) (n := 43) (Z := mX8_parts) (L0 := [_]) dX8_nextPart_40 kX8_parts gX8_99 syX8_parts rfl (Nat.le_of_ble_eq_true rfl) rfl rfl (by omega) (Nat.le_of_ble_eq_true rfl) (m_parts (by omega) ?_)
  dsimp only [aPush]
  refine aw_icmp_lt (tg := 50) (n := 46) dX8_nextPart_43 (by decide) rfl (fun c_43 => ?_) (fun c_43 => by exact absurd ((nI_ltI (by omega) (by omega)).mpr hi) c_43)
  refine aw_iload_n (n := 51) dX8_nextPart_50 rfl rfl ?_
  refine aw_if_ne (tg := 63) (n := 54) dX8_nextPart_51 (by decide) rfl (fun c_51 => ?_) (fun c_51 => ?_)
  · refine aw_iload_n (n := 64) dX8_nextPart_63 rfl rfl ?_
    refine aw_iconst (n := 65) (v := 1) dX8_nextPart_64 (by decide) rfl ?_
    refine aw_icmp_ne (tg := 77) (n := 68) dX8_nextPart_65 (by decide) rfl (fun c_65 => ?_) (fun c_65 => ?_)
    · refine aw_aload_n (n := 78) dX8_nextPart_77 rfl rfl ?_
      refine aw_getr (n := 81) dX8_nextPart_78 fX8_19 E_164 rfl rfl ?_
      refine aw_iload_n (n := 82) dX8_nextPart_81 rfl rfl ?_
      refine aw_iald (n := 83) dX8_nextPart_82 E_168 (by assumption) rfl ?_
      rw [htc]
      rcases (show i = 0 ∨ i = 1 ∨ i = 2 by omega) with rfl | rfl | rfl
      all_goals first | exact absurd rfl c_51 | exact absurd c_51 (by decide) | exact absurd rfl c_65 | exact absurd c_65 (by decide) | (refine aw_iret dX8_nextPart_83 rfl ?_; exact hQ)
    · refine aw_aload_n (n := 69) dX8_nextPart_68 rfl rfl ?_
      refine aw_getr (n := 72) dX8_nextPart_69 fX8_16 E_164 rfl rfl ?_
      refine aw_iload_n (n := 73) dX8_nextPart_72 rfl rfl ?_
      refine aw_iald (n := 74) dX8_nextPart_73 E_167 (by assumption) rfl ?_
      refine aw_goto (n := 83) dX8_nextPart_74 (by decide) ?_
      rw [htc]
      rcases (show i = 0 ∨ i = 1 ∨ i = 2 by omega) with rfl | rfl | rfl
      all_goals first | exact absurd rfl c_51 | exact absurd c_51 (by decide) | exact absurd rfl c_65 | exact absurd c_65 (by decide) | (refine aw_iret dX8_nextPart_83 rfl ?_; exact hQ)
  · refine aw_aload_n (n := 55) dX8_nextPart_54 rfl rfl ?_
    refine aw_getr (n := 58) dX8_nextPart_55 fX8_13 E_164 rfl rfl ?_
    refine aw_iload_n (n := 59) dX8_nextPart_58 rfl rfl ?_
    refine aw_iald (n := 60) dX8_nextPart_59 E_166 (by assumption) rfl ?_
    refine aw_goto (n := 83) dX8_nextPart_60 (by decide) ?_
    rw [htc]
    rcases (show i = 0 ∨ i = 1 ∨ i = 2 by omega) with rfl | rfl | rfl
    all_goals first | exact absurd rfl c_51 | exact absurd c_51 (by decide) | exact absurd rfl c_65 | exact absurd c_65 (by decide) | (refine aw_iret dX8_nextPart_83 rfl ?_; exact hQ)
/-- a choice, its first part -/
theorem m_nextC0 {tt top w : Nat} (hd : 2 ≤ d) (hw : w = 19 ∨ w = 20) (htt : tt < 60) (htop : top < 60) (hM : M 165 tt = nI w) (hp : M 174 top = nI 0) (hQ : Q (some (.int (M 166 tt))) EE M) : aw l K mX8_nextPart d 0 0 0 [.ref 164, .int (nI tt), .int (nI top), .null, .null] [] EE M Q := by
  have hin : vp_in (nI tt) 60 := vp_in_nI htt (by decide)
  have htc : (nI tt).toNatClampNeg = tt := nI_clamp (by omega)
  have hit : vp_in (nI top) 61 := vp_in_nI (by omega) (by decide)
  have hic : (nI top).toNatClampNeg = top := nI_clamp (by omega)
  have kk0 : ∀ d (Q : Option Value → aE → aM → Prop), Q (some (.int (M 166 tt))) EE M → aw l K mX8_nextOfChoice d 0 0 0 [.ref 164, .int (nI tt), .int (nI top), .int (nI 0), .null] [] EE M Q := by
    intro d Q hQ
    refine aw_iload_n (n := 1) dX8_nextOfChoice_0 rfl rfl ?_
    refine aw_if_ne (tg := 11) (n := 4) dX8_nextOfChoice_1 (by decide) rfl (fun c_1 => by first | exact absurd rfl c_1 | exact absurd c_1 (by decide)) (fun _ => ?_)
    refine aw_aload_n (n := 5) dX8_nextOfChoice_4 rfl rfl ?_
    refine aw_getr (n := 8) dX8_nextOfChoice_5 fX8_13 E_164 rfl rfl ?_
    refine aw_iload_n (n := 9) dX8_nextOfChoice_8 rfl rfl ?_
    refine aw_iald (n := 10) dX8_nextOfChoice_9 E_166 (by assumption) rfl ?_
    rw [htc]
    refine aw_iret dX8_nextOfChoice_10 rfl ?_
    exact hQ
  rcases hw with rfl | rfl
  · have kk := kk0
    refine aw_aload_n (n := 1) dX8_nextPart_0 rfl rfl ?_
    refine aw_getr (n := 4) dX8_nextPart_1 fX8_37 E_164 rfl rfl ?_
    refine aw_iload_n (n := 5) dX8_nextPart_4 rfl rfl ?_
    refine aw_iald (n := 6) dX8_nextPart_5 E_174 (by assumption) rfl ?_
    rw [hic, hp]
    refine aw_istore_n (n := 7) (L' := [_, _, _, _, _]) dX8_nextPart_6 (Nat.le_of_ble_eq_true rfl) rfl rfl ?_
    refine aw_aload_n (n := 8) dX8_nextPart_7 rfl rfl ?_
    refine aw_getr (n := 11) dX8_nextPart_8 fX8_7 E_164 rfl rfl ?_
    refine aw_iload_n (n := 12) dX8_nextPart_11 rfl rfl ?_
    refine aw_iald (n := 13) dX8_nextPart_12 E_165 (by assumption) rfl ?_
    rw [htc, hM]
    refine aw_istore (n := 15) (L' := [_, _, _, _, _]) dX8_nextPart_13 (Nat.le_of_ble_eq_true rfl) rfl rfl ?_
    refine aw_iload (n := 17) dX8_nextPart_15 rfl rfl ?_
    refine aw_bipush (n := 19) (v := 19) dX8_nextPart_17 (by decide) rfl ?_
    refine aw_icmp_eq (tg := 29) (n := 22) dX8_nextPart_19 (by decide) rfl (fun _ => ?_) (fun c_19 => by first | exact absurd rfl c_19 | exact absurd c_19 (by decide))
    refine aw_aload_n (n := 30) dX8_nextPart_29 rfl rfl ?_
    refine aw_iload_n (n := 31) dX8_nextPart_30 rfl rfl ?_
    refine aw_iload_n (n := 32) dX8_nextPart_31 rfl rfl ?_
    refine aw_iload_n (n := 33) dX8_nextPart_32 rfl rfl ?_
    refine aw_v3 (d1 := d - 1) (n := 36) (Z := mX8_nextOfChoice) (ci := 6) (L0 := [_, _, _, _, .null]) dX8_nextPart_33 kX8_nextOfChoice gX8_137 iyX8_nextOfChoice eyX8_nextOfChoice rfl rfl E_164 rfl rfl rfl (Nat.le_of_ble_eq_true rfl) rfl rfl (by omega) (Nat.le_of_ble_eq_true rfl) (kk _ _ ?_)
    dsimp only [aPush]
    refine aw_iret dX8_nextPart_36 rfl ?_
    exact hQ
  · have kk := kk0
    refine aw_aload_n (n := 1) dX8_nextPart_0 rfl rfl ?_
    refine aw_getr (n := 4) dX8_nextPart_1 fX8_37 E_164 rfl rfl ?_
    refine aw_iload_n (n := 5) dX8_nextPart_4 rfl rfl ?_
    refine aw_iald (n := 6) dX8_nextPart_5 E_174 (by assumption) rfl ?_
    rw [hic, hp]
    refine aw_istore_n (n := 7) (L' := [_, _, _, _, _]) dX8_nextPart_6 (Nat.le_of_ble_eq_true rfl) rfl rfl ?_
    refine aw_aload_n (n := 8) dX8_nextPart_7 rfl rfl ?_
    refine aw_getr (n := 11) dX8_nextPart_8 fX8_7 E_164 rfl rfl ?_
    refine aw_iload_n (n := 12) dX8_nextPart_11 rfl rfl ?_
    refine aw_iald (n := 13) dX8_nextPart_12 E_165 (by assumption) rfl ?_
    rw [htc, hM]
    refine aw_istore (n := 15) (L' := [_, _, _, _, _]) dX8_nextPart_13 (Nat.le_of_ble_eq_true rfl) rfl rfl ?_
    refine aw_iload (n := 17) dX8_nextPart_15 rfl rfl ?_
    refine aw_bipush (n := 19) (v := 19) dX8_nextPart_17 (by decide) rfl ?_
    refine aw_icmp_eq (tg := 29) (n := 22) dX8_nextPart_19 (by decide) rfl (fun c_19 => by first | exact absurd rfl c_19 | exact absurd c_19 (by decide)) (fun _ => ?_)
    refine aw_iload (n := 24) dX8_nextPart_22 rfl rfl ?_
    refine aw_bipush (n := 26) (v := 20) dX8_nextPart_24 (by decide) rfl ?_
    refine aw_icmp_ne (tg := 37) (n := 29) dX8_nextPart_26 (by decide) rfl (fun c_26 => by first | exact absurd rfl c_26 | exact absurd c_26 (by decide)) (fun _ => ?_)
    refine aw_aload_n (n := 30) dX8_nextPart_29 rfl rfl ?_
    refine aw_iload_n (n := 31) dX8_nextPart_30 rfl rfl ?_
    refine aw_iload_n (n := 32) dX8_nextPart_31 rfl rfl ?_
    refine aw_iload_n (n := 33) dX8_nextPart_32 rfl rfl ?_
    refine aw_v3 (d1 := d - 1) (n := 36) (Z := mX8_nextOfChoice) (ci := 6) (L0 := [_, _, _, _, .null]) dX8_nextPart_33 kX8_nextOfChoice gX8_137 iyX8_nextOfChoice eyX8_nextOfChoice rfl rfl E_164 rfl rfl rfl (Nat.le_of_ble_eq_true rfl) rfl rfl (by omega) (Nat.le_of_ble_eq_true rfl) (kk _ _ ?_)
    dsimp only [aPush]
    refine aw_iret dX8_nextPart_36 rfl ?_
    exact hQ
/-- a choice, after its second part -/
theorem m_nextC2 {tt top w : Nat} (hd : 2 ≤ d) (hw : w = 19 ∨ w = 20) (htt : tt < 60) (htop : top < 60) (hM : M 165 tt = nI w) (hp : M 174 top = nI 2) (hQ : Q (some (.int (-1))) EE M) : aw l K mX8_nextPart d 0 0 0 [.ref 164, .int (nI tt), .int (nI top), .null, .null] [] EE M Q := by
  have hin : vp_in (nI tt) 60 := vp_in_nI htt (by decide)
  have htc : (nI tt).toNatClampNeg = tt := nI_clamp (by omega)
  have hit : vp_in (nI top) 61 := vp_in_nI (by omega) (by decide)
  have hic : (nI top).toNatClampNeg = top := nI_clamp (by omega)
  have kk0 : ∀ d (Q : Option Value → aE → aM → Prop), Q (some (.int (-1))) EE M → aw l K mX8_nextOfChoice d 0 0 0 [.ref 164, .int (nI tt), .int (nI top), .int (nI 2), .null] [] EE M Q := by
    intro d Q hQ
    refine aw_iload_n (n := 1) dX8_nextOfChoice_0 rfl rfl ?_
    refine aw_if_ne (tg := 11) (n := 4) dX8_nextOfChoice_1 (by decide) rfl (fun _ => ?_) (fun c_1 => by first | exact absurd rfl c_1 | exact absurd c_1 (by decide))
    refine aw_iload_n (n := 12) dX8_nextOfChoice_11 rfl rfl ?_
    refine aw_iconst (n := 13) (v := 2) dX8_nextOfChoice_12 (by decide) rfl ?_
    refine aw_icmp_ne (tg := 18) (n := 16) dX8_nextOfChoice_13 (by decide) rfl (fun c_13 => by first | exact absurd rfl c_13 | exact absurd c_13 (by decide)) (fun _ => ?_)
    refine aw_iconst (n := 17) (v := -1) dX8_nextOfChoice_16 (by decide) rfl ?_
    refine aw_iret dX8_nextOfChoice_17 rfl ?_
    exact hQ
  rcases hw with rfl | rfl
  · have kk := kk0
    refine aw_aload_n (n := 1) dX8_nextPart_0 rfl rfl ?_
    refine aw_getr (n := 4) dX8_nextPart_1 fX8_37 E_164 rfl rfl ?_
    refine aw_iload_n (n := 5) dX8_nextPart_4 rfl rfl ?_
    refine aw_iald (n := 6) dX8_nextPart_5 E_174 (by assumption) rfl ?_
    rw [hic, hp]
    refine aw_istore_n (n := 7) (L' := [_, _, _, _, _]) dX8_nextPart_6 (Nat.le_of_ble_eq_true rfl) rfl rfl ?_
    refine aw_aload_n (n := 8) dX8_nextPart_7 rfl rfl ?_
    refine aw_getr (n := 11) dX8_nextPart_8 fX8_7 E_164 rfl rfl ?_
    refine aw_iload_n (n := 12) dX8_nextPart_11 rfl rfl ?_
    refine aw_iald (n := 13) dX8_nextPart_12 E_165 (by assumption) rfl ?_
    rw [htc, hM]
    refine aw_istore (n := 15) (L' := [_, _, _, _, _]) dX8_nextPart_13 (Nat.le_of_ble_eq_true rfl) rfl rfl ?_
    refine aw_iload (n := 17) dX8_nextPart_15 rfl rfl ?_
    refine aw_bipush (n := 19) (v := 19) dX8_nextPart_17 (by decide) rfl ?_
    refine aw_icmp_eq (tg := 29) (n := 22) dX8_nextPart_19 (by decide) rfl (fun _ => ?_) (fun c_19 => by first | exact absurd rfl c_19 | exact absurd c_19 (by decide))
    refine aw_aload_n (n := 30) dX8_nextPart_29 rfl rfl ?_
    refine aw_iload_n (n := 31) dX8_nextPart_30 rfl rfl ?_
    refine aw_iload_n (n := 32) dX8_nextPart_31 rfl rfl ?_
    refine aw_iload_n (n := 33) dX8_nextPart_32 rfl rfl ?_
    refine aw_v3 (d1 := d - 1) (n := 36) (Z := mX8_nextOfChoice) (ci := 6) (L0 := [_, _, _, _, .null]) dX8_nextPart_33 kX8_nextOfChoice gX8_137 iyX8_nextOfChoice eyX8_nextOfChoice rfl rfl E_164 rfl rfl rfl (Nat.le_of_ble_eq_true rfl) rfl rfl (by omega) (Nat.le_of_ble_eq_true rfl) (kk _ _ ?_)
    dsimp only [aPush]
    refine aw_iret dX8_nextPart_36 rfl ?_
    exact hQ
  · have kk := kk0
    refine aw_aload_n (n := 1) dX8_nextPart_0 rfl rfl ?_
    refine aw_getr (n := 4) dX8_nextPart_1 fX8_37 E_164 rfl rfl ?_
    refine aw_iload_n (n := 5) dX8_nextPart_4 rfl rfl ?_
    refine aw_iald (n := 6) dX8_nextPart_5 E_174 (by assumption) rfl ?_
    rw [hic, hp]
    refine aw_istore_n (n := 7) (L' := [_, _, _, _, _]) dX8_nextPart_6 (Nat.le_of_ble_eq_true rfl) rfl rfl ?_
    refine aw_aload_n (n := 8) dX8_nextPart_7 rfl rfl ?_
    refine aw_getr (n := 11) dX8_nextPart_8 fX8_7 E_164 rfl rfl ?_
    refine aw_iload_n (n := 12) dX8_nextPart_11 rfl rfl ?_
    refine aw_iald (n := 13) dX8_nextPart_12 E_165 (by assumption) rfl ?_
    rw [htc, hM]
    refine aw_istore (n := 15) (L' := [_, _, _, _, _]) dX8_nextPart_13 (Nat.le_of_ble_eq_true rfl) rfl rfl ?_
    refine aw_iload (n := 17) dX8_nextPart_15 rfl rfl ?_
    refine aw_bipush (n := 19) (v := 19) dX8_nextPart_17 (by decide) rfl ?_
    refine aw_icmp_eq (tg := 29) (n := 22) dX8_nextPart_19 (by decide) rfl (fun c_19 => by first | exact absurd rfl c_19 | exact absurd c_19 (by decide)) (fun _ => ?_)
    refine aw_iload (n := 24) dX8_nextPart_22 rfl rfl ?_
    refine aw_bipush (n := 26) (v := 20) dX8_nextPart_24 (by decide) rfl ?_
    refine aw_icmp_ne (tg := 37) (n := 29) dX8_nextPart_26 (by decide) rfl (fun c_26 => by first | exact absurd rfl c_26 | exact absurd c_26 (by decide)) (fun _ => ?_)
    refine aw_aload_n (n := 30) dX8_nextPart_29 rfl rfl ?_
    refine aw_iload_n (n := 31) dX8_nextPart_30 rfl rfl ?_
    refine aw_iload_n (n := 32) dX8_nextPart_31 rfl rfl ?_
    refine aw_iload_n (n := 33) dX8_nextPart_32 rfl rfl ?_
    refine aw_v3 (d1 := d - 1) (n := 36) (Z := mX8_nextOfChoice) (ci := 6) (L0 := [_, _, _, _, .null]) dX8_nextPart_33 kX8_nextOfChoice gX8_137 iyX8_nextOfChoice eyX8_nextOfChoice rfl rfl E_164 rfl rfl rfl (Nat.le_of_ble_eq_true rfl) rfl rfl (by omega) (Nat.le_of_ble_eq_true rfl) (kk _ _ ?_)
    dsimp only [aPush]
    refine aw_iret dX8_nextPart_36 rfl ?_
    exact hQ
/-- a choice, after its first part: no whole -/
theorem m_nextC1n {tt top w mk : Nat} {va : vV} (hd : 3 ≤ d) (hw : w = 19 ∨ w = 20) (htt : tt < 60) (htop : top < 60) (hM : M 165 tt = nI w) (hp : M 174 top = nI 1) (hv : gV M mk (3 * top) va) (hk : lk 0 va ≠ 0) (hQ : Q (some (.int (-1))) EE (up2 M 164 20 (nI (lk 0 va)))) : aw l K mX8_nextPart d 0 0 0 [.ref 164, .int (nI tt), .int (nI top), .null, .null] [] EE M Q := by
  have hin : vp_in (nI tt) 60 := vp_in_nI htt (by decide)
  have htc : (nI tt).toNatClampNeg = tt := nI_clamp (by omega)
  have hit : vp_in (nI top) 61 := vp_in_nI (by omega) (by decide)
  have hic : (nI top).toNatClampNeg = top := nI_clamp (by omega)
  have l1 := lk_lt 0 va
  have e3 : (3 : Int32) * nI top = nI (3 * top) := by rw [show (3 : Int32) = nI 3 from rfl, pk_mul]
  have kk0 : ∀ d (Q : Option Value → aE → aM → Prop), 1 ≤ d → Q (some (.int (-1))) EE (up2 M 164 20 (nI (lk 0 va))) → aw l K mX8_nextOfChoice d 0 0 0 [.ref 164, .int (nI tt), .int (nI top), .int (nI 1), .null] [] EE M Q := by
    intro d Q hd hQ
    refine aw_iload_n (n := 1) dX8_nextOfChoice_0 rfl rfl ?_
    refine aw_if_ne (tg := 11) (n := 4) dX8_nextOfChoice_1 (by decide) rfl (fun _ => ?_) (fun c_1 => by first | exact absurd rfl c_1 | exact absurd c_1 (by decide))
    refine aw_iload_n (n := 12) dX8_nextOfChoice_11 rfl rfl ?_
    refine aw_iconst (n := 13) (v := 2) dX8_nextOfChoice_12 (by decide) rfl ?_
    refine aw_icmp_ne (tg := 18) (n := 16) dX8_nextOfChoice_13 (by decide) rfl (fun _ => ?_) (fun c_13 => by first | exact absurd rfl c_13 | exact absurd c_13 (by decide))
    refine aw_aload_n (n := 19) dX8_nextOfChoice_18 rfl rfl ?_
    refine aw_aload_n (n := 20) dX8_nextOfChoice_19 rfl rfl ?_
    refine aw_iconst (n := 21) (v := 3) dX8_nextOfChoice_20 (by decide) rfl ?_
    refine aw_iload_n (n := 22) dX8_nextOfChoice_21 rfl rfl ?_
    refine aw_imul (n := 23) dX8_nextOfChoice_22 rfl ?_
    rw [e3]
    refine aw_iconst (n := 24) (v := 0) dX8_nextOfChoice_23 (by decide) rfl ?_
    refine aw_v2 (d1 := d - 1) (n := 27) (Z := mX8_wrong) (ci := 6) (L0 := [_, _, _]) dX8_nextOfChoice_24 kX8_wrong gX8_141 iyX8_wrong eyX8_wrong rfl rfl E_164 rfl rfl (Nat.le_of_ble_eq_true rfl) rfl rfl (by omega) (Nat.le_of_ble_eq_true rfl) (m_wrong (need := 0) (by omega) (by decide) hv ?_)
    dsimp only [aPush]
    refine aw_puti (n := 30) dX8_nextOfChoice_27 pX8_110 E_164 rfl rfl ?_
    refine aw_aload_n (n := 31) dX8_nextOfChoice_30 rfl rfl ?_
    refine aw_geti (n := 34) dX8_nextOfChoice_31 fX8_110 E_164 rfl rfl ?_
    rw [up2_s]
    refine aw_if_eq (tg := 39) (n := 37) dX8_nextOfChoice_34 (by decide) rfl (fun c_34 => by exact absurd c_34 (nI_ne0 (by omega) (by omega))) (fun c_34 => ?_)
    refine aw_iconst (n := 38) (v := -1) dX8_nextOfChoice_37 (by decide) rfl ?_
    refine aw_iret dX8_nextOfChoice_38 rfl ?_
    exact hQ
  rcases hw with rfl | rfl
  · have kk := kk0
    refine aw_aload_n (n := 1) dX8_nextPart_0 rfl rfl ?_
    refine aw_getr (n := 4) dX8_nextPart_1 fX8_37 E_164 rfl rfl ?_
    refine aw_iload_n (n := 5) dX8_nextPart_4 rfl rfl ?_
    refine aw_iald (n := 6) dX8_nextPart_5 E_174 (by assumption) rfl ?_
    rw [hic, hp]
    refine aw_istore_n (n := 7) (L' := [_, _, _, _, _]) dX8_nextPart_6 (Nat.le_of_ble_eq_true rfl) rfl rfl ?_
    refine aw_aload_n (n := 8) dX8_nextPart_7 rfl rfl ?_
    refine aw_getr (n := 11) dX8_nextPart_8 fX8_7 E_164 rfl rfl ?_
    refine aw_iload_n (n := 12) dX8_nextPart_11 rfl rfl ?_
    refine aw_iald (n := 13) dX8_nextPart_12 E_165 (by assumption) rfl ?_
    rw [htc, hM]
    refine aw_istore (n := 15) (L' := [_, _, _, _, _]) dX8_nextPart_13 (Nat.le_of_ble_eq_true rfl) rfl rfl ?_
    refine aw_iload (n := 17) dX8_nextPart_15 rfl rfl ?_
    refine aw_bipush (n := 19) (v := 19) dX8_nextPart_17 (by decide) rfl ?_
    refine aw_icmp_eq (tg := 29) (n := 22) dX8_nextPart_19 (by decide) rfl (fun _ => ?_) (fun c_19 => by first | exact absurd rfl c_19 | exact absurd c_19 (by decide))
    refine aw_aload_n (n := 30) dX8_nextPart_29 rfl rfl ?_
    refine aw_iload_n (n := 31) dX8_nextPart_30 rfl rfl ?_
    refine aw_iload_n (n := 32) dX8_nextPart_31 rfl rfl ?_
    refine aw_iload_n (n := 33) dX8_nextPart_32 rfl rfl ?_
    refine aw_v3 (d1 := d - 1) (n := 36) (Z := mX8_nextOfChoice) (ci := 6) (L0 := [_, _, _, _, .null]) dX8_nextPart_33 kX8_nextOfChoice gX8_137 iyX8_nextOfChoice eyX8_nextOfChoice rfl rfl E_164 rfl rfl rfl (Nat.le_of_ble_eq_true rfl) rfl rfl (by omega) (Nat.le_of_ble_eq_true rfl) (kk _ _ (by omega) ?_)
    dsimp only [aPush]
    refine aw_iret dX8_nextPart_36 rfl ?_
    exact hQ
  · have kk := kk0
    refine aw_aload_n (n := 1) dX8_nextPart_0 rfl rfl ?_
    refine aw_getr (n := 4) dX8_nextPart_1 fX8_37 E_164 rfl rfl ?_
    refine aw_iload_n (n := 5) dX8_nextPart_4 rfl rfl ?_
    refine aw_iald (n := 6) dX8_nextPart_5 E_174 (by assumption) rfl ?_
    rw [hic, hp]
    refine aw_istore_n (n := 7) (L' := [_, _, _, _, _]) dX8_nextPart_6 (Nat.le_of_ble_eq_true rfl) rfl rfl ?_
    refine aw_aload_n (n := 8) dX8_nextPart_7 rfl rfl ?_
    refine aw_getr (n := 11) dX8_nextPart_8 fX8_7 E_164 rfl rfl ?_
    refine aw_iload_n (n := 12) dX8_nextPart_11 rfl rfl ?_
    refine aw_iald (n := 13) dX8_nextPart_12 E_165 (by assumption) rfl ?_
    rw [htc, hM]
    refine aw_istore (n := 15) (L' := [_, _, _, _, _]) dX8_nextPart_13 (Nat.le_of_ble_eq_true rfl) rfl rfl ?_
    refine aw_iload (n := 17) dX8_nextPart_15 rfl rfl ?_
    refine aw_bipush (n := 19) (v := 19) dX8_nextPart_17 (by decide) rfl ?_
    refine aw_icmp_eq (tg := 29) (n := 22) dX8_nextPart_19 (by decide) rfl (fun c_19 => by first | exact absurd rfl c_19 | exact absurd c_19 (by decide)) (fun _ => ?_)
    refine aw_iload (n := 24) dX8_nextPart_22 rfl rfl ?_
    refine aw_bipush (n := 26) (v := 20) dX8_nextPart_24 (by decide) rfl ?_
    refine aw_icmp_ne (tg := 37) (n := 29) dX8_nextPart_26 (by decide) rfl (fun c_26 => by first | exact absurd rfl c_26 | exact absurd c_26 (by decide)) (fun _ => ?_)
    refine aw_aload_n (n := 30) dX8_nextPart_29 rfl rfl ?_
    refine aw_iload_n (n := 31) dX8_nextPart_30 rfl rfl ?_
    refine aw_iload_n (n := 32) dX8_nextPart_31 rfl rfl ?_
    refine aw_iload_n (n := 33) dX8_nextPart_32 rfl rfl ?_
    refine aw_v3 (d1 := d - 1) (n := 36) (Z := mX8_nextOfChoice) (ci := 6) (L0 := [_, _, _, _, .null]) dX8_nextPart_33 kX8_nextOfChoice gX8_137 iyX8_nextOfChoice eyX8_nextOfChoice rfl rfl E_164 rfl rfl rfl (Nat.le_of_ble_eq_true rfl) rfl rfl (by omega) (Nat.le_of_ble_eq_true rfl) (kk _ _ (by omega) ?_)
    dsimp only [aPush]
    refine aw_iret dX8_nextPart_36 rfl ?_
    exact hQ
/-- a choice, after its first part: a whole -/
theorem m_nextC1 {tt top w mk : Nat} {x : Int32} (hd : 3 ≤ d) (hw : w = 19 ∨ w = 20) (htt : tt < 60) (htop : top < 60) (hM : M 165 tt = nI w) (hp : M 174 top = nI 1) (h20 : M 164 20 = 0) (hv : gV M mk (3 * top) (some (.inl x))) (hQ : Q (some (.int (if x = 0 then (if w = 19 then M 168 tt else -1) else M 167 tt))) EE M) : aw l K mX8_nextPart d 0 0 0 [.ref 164, .int (nI tt), .int (nI top), .null, .null] [] EE M Q := by
  have hin : vp_in (nI tt) 60 := vp_in_nI htt (by decide)
  have htc : (nI tt).toNatClampNeg = tt := nI_clamp (by omega)
  have hit : vp_in (nI top) 61 := vp_in_nI (by omega) (by decide)
  have hic : (nI top).toNatClampNeg = top := nI_clamp (by omega)
  have e3 : (3 : Int32) * nI top = nI (3 * top) := by rw [show (3 : Int32) = nI 3 from rfl, pk_mul]
  have hia : vp_in (nI (3 * top)) 183 := vp_in_nI (by omega) (by decide)
  have hac : (nI (3 * top)).toNatClampNeg = 3 * top := nI_clamp (by omega)
  have hx : M 176 (3 * top) = x := hv.2
  have kk0 : ∀ d (Q : Option Value → aE → aM → Prop), 1 ≤ d → Q (some (.int (if x = 0 then (if w = 19 then M 168 tt else -1) else M 167 tt))) EE M → aw l K mX8_nextOfChoice d 0 0 0 [.ref 164, .int (nI tt), .int (nI top), .int (nI 1), .null] [] EE M Q := by
    intro d Q hd hq
    by_cases hx0 : x = 0
    · rw [if_pos hx0] at hq
      rcases hw with rfl | rfl
      · rw [if_pos rfl] at hq
        refine aw_iload_n (n := 1) dX8_nextOfChoice_0 rfl rfl ?_
        refine aw_if_ne (tg := 11) (n := 4) dX8_nextOfChoice_1 (by decide) rfl (fun _ => ?_) (fun c_1 => by first | exact absurd rfl c_1 | exact absurd c_1 (by decide))
        refine aw_iload_n (n := 12) dX8_nextOfChoice_11 rfl rfl ?_
        refine aw_iconst (n := 13) (v := 2) dX8_nextOfChoice_12 (by decide) rfl ?_
        refine aw_icmp_ne (tg := 18) (n := 16) dX8_nextOfChoice_13 (by decide) rfl (fun _ => ?_) (fun c_13 => by first | exact absurd rfl c_13 | exact absurd c_13 (by decide))
        refine aw_aload_n (n := 19) dX8_nextOfChoice_18 rfl rfl ?_
        refine aw_aload_n (n := 20) dX8_nextOfChoice_19 rfl rfl ?_
        refine aw_iconst (n := 21) (v := 3) dX8_nextOfChoice_20 (by decide) rfl ?_
        refine aw_iload_n (n := 22) dX8_nextOfChoice_21 rfl rfl ?_
        refine aw_imul (n := 23) dX8_nextOfChoice_22 rfl ?_
        rw [e3]
        refine aw_iconst (n := 24) (v := 0) dX8_nextOfChoice_23 (by decide) rfl ?_
        refine aw_v2 (d1 := d - 1) (n := 27) (Z := mX8_wrong) (ci := 6) (L0 := [_, _, _]) dX8_nextOfChoice_24 kX8_wrong gX8_141 iyX8_wrong eyX8_wrong rfl rfl E_164 rfl rfl (Nat.le_of_ble_eq_true rfl) rfl rfl (by omega) (Nat.le_of_ble_eq_true rfl) (m_wrong (need := 0) (by omega) (by decide) hv ?_)
        dsimp only [aPush]
        refine aw_puti (n := 30) dX8_nextOfChoice_27 pX8_110 E_164 rfl rfl ?_
        rw [up2_id (x := nI (lk 0 (some (.inl x)))) h20]
        refine aw_aload_n (n := 31) dX8_nextOfChoice_30 rfl rfl ?_
        refine aw_geti (n := 34) dX8_nextOfChoice_31 fX8_110 E_164 rfl rfl ?_
        rw [h20]
        refine aw_if_eq (tg := 39) (n := 37) dX8_nextOfChoice_34 (by decide) rfl (fun c_34 => ?_) (fun c_34 => by exact absurd rfl c_34)
        refine aw_aload_n (n := 40) dX8_nextOfChoice_39 rfl rfl ?_
        refine aw_getr (n := 43) dX8_nextOfChoice_40 fX8_43 E_164 rfl rfl ?_
        refine aw_iconst (n := 44) (v := 3) dX8_nextOfChoice_43 (by decide) rfl ?_
        refine aw_iload_n (n := 45) dX8_nextOfChoice_44 rfl rfl ?_
        refine aw_imul (n := 46) dX8_nextOfChoice_45 rfl ?_
        rw [e3]
        refine aw_iald (n := 47) dX8_nextOfChoice_46 E_176 (by assumption) rfl ?_
        rw [hac, hx]
        refine aw_if_eq (tg := 54) (n := 50) dX8_nextOfChoice_47 (by decide) rfl (fun c_47 => ?_) (fun c_47 => by exact absurd hx0 c_47)
        refine aw_iconst (n := 55) (v := 0) dX8_nextOfChoice_54 (by decide) rfl ?_
        refine aw_istore (n := 57) (L' := [_, _, _, _, _]) dX8_nextOfChoice_55 (Nat.le_of_ble_eq_true rfl) rfl rfl ?_
        refine aw_aload_n (n := 58) dX8_nextOfChoice_57 rfl rfl ?_
        refine aw_getr (n := 61) dX8_nextOfChoice_58 fX8_7 E_164 rfl rfl ?_
        refine aw_iload_n (n := 62) dX8_nextOfChoice_61 rfl rfl ?_
        refine aw_iald (n := 63) dX8_nextOfChoice_62 E_165 (by assumption) rfl ?_
        rw [htc, hM]
        refine aw_bipush (n := 65) (v := 19) dX8_nextOfChoice_63 (by decide) rfl ?_
        refine aw_icmp_ne (tg := 91) (n := 68) dX8_nextOfChoice_65 (by decide) rfl (fun c_65 => by first | exact absurd rfl c_65 | exact absurd c_65 (by decide)) (fun _ => ?_)
        refine aw_iload (n := 70) dX8_nextOfChoice_68 rfl rfl ?_
        refine aw_if_eq (tg := 82) (n := 73) dX8_nextOfChoice_70 (by decide) rfl (fun _ => ?_) (fun c_70 => by first | exact absurd rfl c_70 | exact absurd c_70 (by decide))
        refine aw_aload_n (n := 83) dX8_nextOfChoice_82 rfl rfl ?_
        refine aw_getr (n := 86) dX8_nextOfChoice_83 fX8_19 E_164 rfl rfl ?_
        refine aw_iload_n (n := 87) dX8_nextOfChoice_86 rfl rfl ?_
        refine aw_iald (n := 88) dX8_nextOfChoice_87 E_168 (by assumption) rfl ?_
        rw [htc]
        refine aw_goto (n := 106) dX8_nextOfChoice_88 (by decide) ?_
        refine aw_iret dX8_nextOfChoice_106 rfl ?_
        exact hq
      · rw [if_neg (by decide)] at hq
        refine aw_iload_n (n := 1) dX8_nextOfChoice_0 rfl rfl ?_
        refine aw_if_ne (tg := 11) (n := 4) dX8_nextOfChoice_1 (by decide) rfl (fun _ => ?_) (fun c_1 => by first | exact absurd rfl c_1 | exact absurd c_1 (by decide))
        refine aw_iload_n (n := 12) dX8_nextOfChoice_11 rfl rfl ?_
        refine aw_iconst (n := 13) (v := 2) dX8_nextOfChoice_12 (by decide) rfl ?_
        refine aw_icmp_ne (tg := 18) (n := 16) dX8_nextOfChoice_13 (by decide) rfl (fun _ => ?_) (fun c_13 => by first | exact absurd rfl c_13 | exact absurd c_13 (by decide))
        refine aw_aload_n (n := 19) dX8_nextOfChoice_18 rfl rfl ?_
        refine aw_aload_n (n := 20) dX8_nextOfChoice_19 rfl rfl ?_
        refine aw_iconst (n := 21) (v := 3) dX8_nextOfChoice_20 (by decide) rfl ?_
        refine aw_iload_n (n := 22) dX8_nextOfChoice_21 rfl rfl ?_
        refine aw_imul (n := 23) dX8_nextOfChoice_22 rfl ?_
        rw [e3]
        refine aw_iconst (n := 24) (v := 0) dX8_nextOfChoice_23 (by decide) rfl ?_
        refine aw_v2 (d1 := d - 1) (n := 27) (Z := mX8_wrong) (ci := 6) (L0 := [_, _, _]) dX8_nextOfChoice_24 kX8_wrong gX8_141 iyX8_wrong eyX8_wrong rfl rfl E_164 rfl rfl (Nat.le_of_ble_eq_true rfl) rfl rfl (by omega) (Nat.le_of_ble_eq_true rfl) (m_wrong (need := 0) (by omega) (by decide) hv ?_)
        dsimp only [aPush]
        refine aw_puti (n := 30) dX8_nextOfChoice_27 pX8_110 E_164 rfl rfl ?_
        rw [up2_id (x := nI (lk 0 (some (.inl x)))) h20]
        refine aw_aload_n (n := 31) dX8_nextOfChoice_30 rfl rfl ?_
        refine aw_geti (n := 34) dX8_nextOfChoice_31 fX8_110 E_164 rfl rfl ?_
        rw [h20]
        refine aw_if_eq (tg := 39) (n := 37) dX8_nextOfChoice_34 (by decide) rfl (fun c_34 => ?_) (fun c_34 => by exact absurd rfl c_34)
        refine aw_aload_n (n := 40) dX8_nextOfChoice_39 rfl rfl ?_
        refine aw_getr (n := 43) dX8_nextOfChoice_40 fX8_43 E_164 rfl rfl ?_
        refine aw_iconst (n := 44) (v := 3) dX8_nextOfChoice_43 (by decide) rfl ?_
        refine aw_iload_n (n := 45) dX8_nextOfChoice_44 rfl rfl ?_
        refine aw_imul (n := 46) dX8_nextOfChoice_45 rfl ?_
        rw [e3]
        refine aw_iald (n := 47) dX8_nextOfChoice_46 E_176 (by assumption) rfl ?_
        rw [hac, hx]
        refine aw_if_eq (tg := 54) (n := 50) dX8_nextOfChoice_47 (by decide) rfl (fun c_47 => ?_) (fun c_47 => by exact absurd hx0 c_47)
        refine aw_iconst (n := 55) (v := 0) dX8_nextOfChoice_54 (by decide) rfl ?_
        refine aw_istore (n := 57) (L' := [_, _, _, _, _]) dX8_nextOfChoice_55 (Nat.le_of_ble_eq_true rfl) rfl rfl ?_
        refine aw_aload_n (n := 58) dX8_nextOfChoice_57 rfl rfl ?_
        refine aw_getr (n := 61) dX8_nextOfChoice_58 fX8_7 E_164 rfl rfl ?_
        refine aw_iload_n (n := 62) dX8_nextOfChoice_61 rfl rfl ?_
        refine aw_iald (n := 63) dX8_nextOfChoice_62 E_165 (by assumption) rfl ?_
        rw [htc, hM]
        refine aw_bipush (n := 65) (v := 19) dX8_nextOfChoice_63 (by decide) rfl ?_
        refine aw_icmp_ne (tg := 91) (n := 68) dX8_nextOfChoice_65 (by decide) rfl (fun _ => ?_) (fun c_65 => by first | exact absurd rfl c_65 | exact absurd c_65 (by decide))
        refine aw_iload (n := 93) dX8_nextOfChoice_91 rfl rfl ?_
        refine aw_if_eq (tg := 105) (n := 96) dX8_nextOfChoice_93 (by decide) rfl (fun _ => ?_) (fun c_93 => by first | exact absurd rfl c_93 | exact absurd c_93 (by decide))
        refine aw_iconst (n := 106) (v := -1) dX8_nextOfChoice_105 (by decide) rfl ?_
        refine aw_iret dX8_nextOfChoice_106 rfl ?_
        exact hq
    · rw [if_neg hx0] at hq
      rcases hw with rfl | rfl
      · refine aw_iload_n (n := 1) dX8_nextOfChoice_0 rfl rfl ?_
        refine aw_if_ne (tg := 11) (n := 4) dX8_nextOfChoice_1 (by decide) rfl (fun _ => ?_) (fun c_1 => by first | exact absurd rfl c_1 | exact absurd c_1 (by decide))
        refine aw_iload_n (n := 12) dX8_nextOfChoice_11 rfl rfl ?_
        refine aw_iconst (n := 13) (v := 2) dX8_nextOfChoice_12 (by decide) rfl ?_
        refine aw_icmp_ne (tg := 18) (n := 16) dX8_nextOfChoice_13 (by decide) rfl (fun _ => ?_) (fun c_13 => by first | exact absurd rfl c_13 | exact absurd c_13 (by decide))
        refine aw_aload_n (n := 19) dX8_nextOfChoice_18 rfl rfl ?_
        refine aw_aload_n (n := 20) dX8_nextOfChoice_19 rfl rfl ?_
        refine aw_iconst (n := 21) (v := 3) dX8_nextOfChoice_20 (by decide) rfl ?_
        refine aw_iload_n (n := 22) dX8_nextOfChoice_21 rfl rfl ?_
        refine aw_imul (n := 23) dX8_nextOfChoice_22 rfl ?_
        rw [e3]
        refine aw_iconst (n := 24) (v := 0) dX8_nextOfChoice_23 (by decide) rfl ?_
        refine aw_v2 (d1 := d - 1) (n := 27) (Z := mX8_wrong) (ci := 6) (L0 := [_, _, _]) dX8_nextOfChoice_24 kX8_wrong gX8_141 iyX8_wrong eyX8_wrong rfl rfl E_164 rfl rfl (Nat.le_of_ble_eq_true rfl) rfl rfl (by omega) (Nat.le_of_ble_eq_true rfl) (m_wrong (need := 0) (by omega) (by decide) hv ?_)
        dsimp only [aPush]
        refine aw_puti (n := 30) dX8_nextOfChoice_27 pX8_110 E_164 rfl rfl ?_
        rw [up2_id (x := nI (lk 0 (some (.inl x)))) h20]
        refine aw_aload_n (n := 31) dX8_nextOfChoice_30 rfl rfl ?_
        refine aw_geti (n := 34) dX8_nextOfChoice_31 fX8_110 E_164 rfl rfl ?_
        rw [h20]
        refine aw_if_eq (tg := 39) (n := 37) dX8_nextOfChoice_34 (by decide) rfl (fun c_34 => ?_) (fun c_34 => by exact absurd rfl c_34)
        refine aw_aload_n (n := 40) dX8_nextOfChoice_39 rfl rfl ?_
        refine aw_getr (n := 43) dX8_nextOfChoice_40 fX8_43 E_164 rfl rfl ?_
        refine aw_iconst (n := 44) (v := 3) dX8_nextOfChoice_43 (by decide) rfl ?_
        refine aw_iload_n (n := 45) dX8_nextOfChoice_44 rfl rfl ?_
        refine aw_imul (n := 46) dX8_nextOfChoice_45 rfl ?_
        rw [e3]
        refine aw_iald (n := 47) dX8_nextOfChoice_46 E_176 (by assumption) rfl ?_
        rw [hac, hx]
        refine aw_if_eq (tg := 54) (n := 50) dX8_nextOfChoice_47 (by decide) rfl (fun c_47 => by exact absurd c_47 hx0) (fun c_47 => ?_)
        refine aw_iconst (n := 51) (v := 1) dX8_nextOfChoice_50 (by decide) rfl ?_
        refine aw_goto (n := 55) dX8_nextOfChoice_51 (by decide) ?_
        refine aw_istore (n := 57) (L' := [_, _, _, _, _]) dX8_nextOfChoice_55 (Nat.le_of_ble_eq_true rfl) rfl rfl ?_
        refine aw_aload_n (n := 58) dX8_nextOfChoice_57 rfl rfl ?_
        refine aw_getr (n := 61) dX8_nextOfChoice_58 fX8_7 E_164 rfl rfl ?_
        refine aw_iload_n (n := 62) dX8_nextOfChoice_61 rfl rfl ?_
        refine aw_iald (n := 63) dX8_nextOfChoice_62 E_165 (by assumption) rfl ?_
        rw [htc, hM]
        refine aw_bipush (n := 65) (v := 19) dX8_nextOfChoice_63 (by decide) rfl ?_
        refine aw_icmp_ne (tg := 91) (n := 68) dX8_nextOfChoice_65 (by decide) rfl (fun c_65 => by first | exact absurd rfl c_65 | exact absurd c_65 (by decide)) (fun _ => ?_)
        refine aw_iload (n := 70) dX8_nextOfChoice_68 rfl rfl ?_
        refine aw_if_eq (tg := 82) (n := 73) dX8_nextOfChoice_70 (by decide) rfl (fun c_70 => by first | exact absurd rfl c_70 | exact absurd c_70 (by decide)) (fun _ => ?_)
        refine aw_aload_n (n := 74) dX8_nextOfChoice_73 rfl rfl ?_
        refine aw_getr (n := 77) dX8_nextOfChoice_74 fX8_16 E_164 rfl rfl ?_
        refine aw_iload_n (n := 78) dX8_nextOfChoice_77 rfl rfl ?_
        refine aw_iald (n := 79) dX8_nextOfChoice_78 E_167 (by assumption) rfl ?_
        rw [htc]
        refine aw_goto (n := 106) dX8_nextOfChoice_79 (by decide) ?_
        refine aw_iret dX8_nextOfChoice_106 rfl ?_
        exact hq
      · refine aw_iload_n (n := 1) dX8_nextOfChoice_0 rfl rfl ?_
        refine aw_if_ne (tg := 11) (n := 4) dX8_nextOfChoice_1 (by decide) rfl (fun _ => ?_) (fun c_1 => by first | exact absurd rfl c_1 | exact absurd c_1 (by decide))
        refine aw_iload_n (n := 12) dX8_nextOfChoice_11 rfl rfl ?_
        refine aw_iconst (n := 13) (v := 2) dX8_nextOfChoice_12 (by decide) rfl ?_
        refine aw_icmp_ne (tg := 18) (n := 16) dX8_nextOfChoice_13 (by decide) rfl (fun _ => ?_) (fun c_13 => by first | exact absurd rfl c_13 | exact absurd c_13 (by decide))
        refine aw_aload_n (n := 19) dX8_nextOfChoice_18 rfl rfl ?_
        refine aw_aload_n (n := 20) dX8_nextOfChoice_19 rfl rfl ?_
        refine aw_iconst (n := 21) (v := 3) dX8_nextOfChoice_20 (by decide) rfl ?_
        refine aw_iload_n (n := 22) dX8_nextOfChoice_21 rfl rfl ?_
        refine aw_imul (n := 23) dX8_nextOfChoice_22 rfl ?_
        rw [e3]
        refine aw_iconst (n := 24) (v := 0) dX8_nextOfChoice_23 (by decide) rfl ?_
        refine aw_v2 (d1 := d - 1) (n := 27) (Z := mX8_wrong) (ci := 6) (L0 := [_, _, _]) dX8_nextOfChoice_24 kX8_wrong gX8_141 iyX8_wrong eyX8_wrong rfl rfl E_164 rfl rfl (Nat.le_of_ble_eq_true rfl) rfl rfl (by omega) (Nat.le_of_ble_eq_true rfl) (m_wrong (need := 0) (by omega) (by decide) hv ?_)
        dsimp only [aPush]
        refine aw_puti (n := 30) dX8_nextOfChoice_27 pX8_110 E_164 rfl rfl ?_
        rw [up2_id (x := nI (lk 0 (some (.inl x)))) h20]
        refine aw_aload_n (n := 31) dX8_nextOfChoice_30 rfl rfl ?_
        refine aw_geti (n := 34) dX8_nextOfChoice_31 fX8_110 E_164 rfl rfl ?_
        rw [h20]
        refine aw_if_eq (tg := 39) (n := 37) dX8_nextOfChoice_34 (by decide) rfl (fun c_34 => ?_) (fun c_34 => by exact absurd rfl c_34)
        refine aw_aload_n (n := 40) dX8_nextOfChoice_39 rfl rfl ?_
        refine aw_getr (n := 43) dX8_nextOfChoice_40 fX8_43 E_164 rfl rfl ?_
        refine aw_iconst (n := 44) (v := 3) dX8_nextOfChoice_43 (by decide) rfl ?_
        refine aw_iload_n (n := 45) dX8_nextOfChoice_44 rfl rfl ?_
        refine aw_imul (n := 46) dX8_nextOfChoice_45 rfl ?_
        rw [e3]
        refine aw_iald (n := 47) dX8_nextOfChoice_46 E_176 (by assumption) rfl ?_
        rw [hac, hx]
        refine aw_if_eq (tg := 54) (n := 50) dX8_nextOfChoice_47 (by decide) rfl (fun c_47 => by exact absurd c_47 hx0) (fun c_47 => ?_)
        refine aw_iconst (n := 51) (v := 1) dX8_nextOfChoice_50 (by decide) rfl ?_
        refine aw_goto (n := 55) dX8_nextOfChoice_51 (by decide) ?_
        refine aw_istore (n := 57) (L' := [_, _, _, _, _]) dX8_nextOfChoice_55 (Nat.le_of_ble_eq_true rfl) rfl rfl ?_
        refine aw_aload_n (n := 58) dX8_nextOfChoice_57 rfl rfl ?_
        refine aw_getr (n := 61) dX8_nextOfChoice_58 fX8_7 E_164 rfl rfl ?_
        refine aw_iload_n (n := 62) dX8_nextOfChoice_61 rfl rfl ?_
        refine aw_iald (n := 63) dX8_nextOfChoice_62 E_165 (by assumption) rfl ?_
        rw [htc, hM]
        refine aw_bipush (n := 65) (v := 19) dX8_nextOfChoice_63 (by decide) rfl ?_
        refine aw_icmp_ne (tg := 91) (n := 68) dX8_nextOfChoice_65 (by decide) rfl (fun _ => ?_) (fun c_65 => by first | exact absurd rfl c_65 | exact absurd c_65 (by decide))
        refine aw_iload (n := 93) dX8_nextOfChoice_91 rfl rfl ?_
        refine aw_if_eq (tg := 105) (n := 96) dX8_nextOfChoice_93 (by decide) rfl (fun c_93 => by first | exact absurd rfl c_93 | exact absurd c_93 (by decide)) (fun _ => ?_)
        refine aw_aload_n (n := 97) dX8_nextOfChoice_96 rfl rfl ?_
        refine aw_getr (n := 100) dX8_nextOfChoice_97 fX8_16 E_164 rfl rfl ?_
        refine aw_iload_n (n := 101) dX8_nextOfChoice_100 rfl rfl ?_
        refine aw_iald (n := 102) dX8_nextOfChoice_101 E_167 (by assumption) rfl ?_
        rw [htc]
        refine aw_goto (n := 106) dX8_nextOfChoice_102 (by decide) ?_
        refine aw_iret dX8_nextOfChoice_106 rfl ?_
        exact hq
  rcases hw with rfl | rfl
  · have kk := kk0
    refine aw_aload_n (n := 1) dX8_nextPart_0 rfl rfl ?_
    refine aw_getr (n := 4) dX8_nextPart_1 fX8_37 E_164 rfl rfl ?_
    refine aw_iload_n (n := 5) dX8_nextPart_4 rfl rfl ?_
    refine aw_iald (n := 6) dX8_nextPart_5 E_174 (by assumption) rfl ?_
    rw [hic, hp]
    refine aw_istore_n (n := 7) (L' := [_, _, _, _, _]) dX8_nextPart_6 (Nat.le_of_ble_eq_true rfl) rfl rfl ?_
    refine aw_aload_n (n := 8) dX8_nextPart_7 rfl rfl ?_
    refine aw_getr (n := 11) dX8_nextPart_8 fX8_7 E_164 rfl rfl ?_
    refine aw_iload_n (n := 12) dX8_nextPart_11 rfl rfl ?_
    refine aw_iald (n := 13) dX8_nextPart_12 E_165 (by assumption) rfl ?_
    rw [htc, hM]
    refine aw_istore (n := 15) (L' := [_, _, _, _, _]) dX8_nextPart_13 (Nat.le_of_ble_eq_true rfl) rfl rfl ?_
    refine aw_iload (n := 17) dX8_nextPart_15 rfl rfl ?_
    refine aw_bipush (n := 19) (v := 19) dX8_nextPart_17 (by decide) rfl ?_
    refine aw_icmp_eq (tg := 29) (n := 22) dX8_nextPart_19 (by decide) rfl (fun _ => ?_) (fun c_19 => by first | exact absurd rfl c_19 | exact absurd c_19 (by decide))
    refine aw_aload_n (n := 30) dX8_nextPart_29 rfl rfl ?_
    refine aw_iload_n (n := 31) dX8_nextPart_30 rfl rfl ?_
    refine aw_iload_n (n := 32) dX8_nextPart_31 rfl rfl ?_
    refine aw_iload_n (n := 33) dX8_nextPart_32 rfl rfl ?_
    refine aw_v3 (d1 := d - 1) (n := 36) (Z := mX8_nextOfChoice) (ci := 6) (L0 := [_, _, _, _, .null]) dX8_nextPart_33 kX8_nextOfChoice gX8_137 iyX8_nextOfChoice eyX8_nextOfChoice rfl rfl E_164 rfl rfl rfl (Nat.le_of_ble_eq_true rfl) rfl rfl (by omega) (Nat.le_of_ble_eq_true rfl) (kk _ _ (by omega) ?_)
    dsimp only [aPush]
    refine aw_iret dX8_nextPart_36 rfl ?_
    exact hQ
  · have kk := kk0
    refine aw_aload_n (n := 1) dX8_nextPart_0 rfl rfl ?_
    refine aw_getr (n := 4) dX8_nextPart_1 fX8_37 E_164 rfl rfl ?_
    refine aw_iload_n (n := 5) dX8_nextPart_4 rfl rfl ?_
    refine aw_iald (n := 6) dX8_nextPart_5 E_174 (by assumption) rfl ?_
    rw [hic, hp]
    refine aw_istore_n (n := 7) (L' := [_, _, _, _, _]) dX8_nextPart_6 (Nat.le_of_ble_eq_true rfl) rfl rfl ?_
    refine aw_aload_n (n := 8) dX8_nextPart_7 rfl rfl ?_
    refine aw_getr (n := 11) dX8_nextPart_8 fX8_7 E_164 rfl rfl ?_
    refine aw_iload_n (n := 12) dX8_nextPart_11 rfl rfl ?_
    refine aw_iald (n := 13) dX8_nextPart_12 E_165 (by assumption) rfl ?_
    rw [htc, hM]
    refine aw_istore (n := 15) (L' := [_, _, _, _, _]) dX8_nextPart_13 (Nat.le_of_ble_eq_true rfl) rfl rfl ?_
    refine aw_iload (n := 17) dX8_nextPart_15 rfl rfl ?_
    refine aw_bipush (n := 19) (v := 19) dX8_nextPart_17 (by decide) rfl ?_
    refine aw_icmp_eq (tg := 29) (n := 22) dX8_nextPart_19 (by decide) rfl (fun c_19 => by first | exact absurd rfl c_19 | exact absurd c_19 (by decide)) (fun _ => ?_)
    refine aw_iload (n := 24) dX8_nextPart_22 rfl rfl ?_
    refine aw_bipush (n := 26) (v := 20) dX8_nextPart_24 (by decide) rfl ?_
    refine aw_icmp_ne (tg := 37) (n := 29) dX8_nextPart_26 (by decide) rfl (fun c_26 => by first | exact absurd rfl c_26 | exact absurd c_26 (by decide)) (fun _ => ?_)
    refine aw_aload_n (n := 30) dX8_nextPart_29 rfl rfl ?_
    refine aw_iload_n (n := 31) dX8_nextPart_30 rfl rfl ?_
    refine aw_iload_n (n := 32) dX8_nextPart_31 rfl rfl ?_
    refine aw_iload_n (n := 33) dX8_nextPart_32 rfl rfl ?_
    refine aw_v3 (d1 := d - 1) (n := 36) (Z := mX8_nextOfChoice) (ci := 6) (L0 := [_, _, _, _, .null]) dX8_nextPart_33 kX8_nextOfChoice gX8_137 iyX8_nextOfChoice eyX8_nextOfChoice rfl rfl E_164 rfl rfl rfl (Nat.le_of_ble_eq_true rfl) rfl rfl (by omega) (Nat.le_of_ble_eq_true rfl) (kk _ _ (by omega) ?_)
    dsimp only [aPush]
    refine aw_iret dX8_nextPart_36 rfl ?_
    exact hQ
end MNEXT
