theorem q_0 : (((0 : Int) ≤ (0 : Int)) ∨ ((0 : Int) ≤ (256 : Int))) := by omega
theorem q_1 : ((0 : Int) ≤ (0 : Int)) := by omega
theorem q_2 : (inr (0 : Int)) := by omega
theorem q_3 : (inr (256 : Int)) := by omega
theorem q_4 : (((0 : Int) ≤ (0 : Int)) ∧ ((0 : Int) ≤ (0 : Int))) := by omega
theorem q_5 {x0 : Int} : (((0 : Int) ≤ (0 : Int)) ∨ ((0 : Int) ≤ x0)) := by omega
theorem q_6 {x0 : Int} (h0 : (((0 : Int) ≤ x0) ∧ (x0 ≤ (8001 : Int)))) : (inr x0) := by omega
theorem q_7 {x0 x1 : Int} (h0 : (x0 ≤ x1)) (h1 : ((x1 ≤ (0 : Int)) ∨ (x1 ≤ x0))) (h2 : (((0 : Int) ≤ x0) ∧ (x0 ≤ (8001 : Int)))) : (x1 = x0) := by omega
theorem q_8 {x0 x1 x2 : Int} (h0 : (x0 = x1)) (h1 : (((0 : Int) ≤ x2) ∧ (x2 ≤ x0))) : (((0 : Int) ≤ x2) ∧ (x2 ≤ x1)) := by omega
theorem q_9 {x0 x1 x2 : Int} (h0 : (x0 < x1)) (h1 : (((0 : Int) ≤ x2) ∧ (x2 ≤ (2 : Int)))) (h2 : ((0 : Int) ≤ x0)) (h3 : (((0 : Int) ≤ x1) ∧ (x1 ≤ (8001 : Int)))) : (((0 : Int) ≤ (((8001 : Int) * x2) + x0)) ∧ ((((8001 : Int) * x2) + x0) < ((24003 : Nat) : Int))) := by omega
theorem q_10 {x0 : Int} (h0 : (((0 : Int) ≤ x0) ∧ (x0 ≤ (63 : Int)))) : (((0 : Int) ≤ x0) ∧ (x0 < ((256 : Nat) : Int))) := by omega
theorem q_11 {x0 x1 : Int} (h0 : (x0 = x1)) : ((x1 + (1 : Int)) = (x0 + (1 : Int))) := by omega
theorem q_12 {x0 x1 x2 x3 : Int} (h0 : (((0 : Int) ≤ x0) ∧ (x0 ≤ x1))) (h1 : (((x2 ≠ (0 : Int)) ∧ (x3 = x0)) ∨ ((x2 = (0 : Int)) ∧ (x3 = (x0 + (1 : Int)))))) : (((0 : Int) ≤ x3) ∧ (x3 ≤ (x1 + (1 : Int)))) := by omega
theorem q_13 {x0 x1 : Int} (h0 : (x0 < x1)) : (((x0 + (1 : Int)) ≤ (0 : Int)) ∨ ((x0 + (1 : Int)) ≤ x1)) := by omega
theorem q_14 {x0 : Int} (h0 : ((0 : Int) ≤ x0)) : ((0 : Int) ≤ (x0 + (1 : Int))) := by omega
theorem q_15 {x0 x1 : Int} (h0 : (x0 < x1)) (h1 : ((0 : Int) ≤ x0)) (h2 : (((0 : Int) ≤ x1) ∧ (x1 ≤ (8001 : Int)))) : (inr (x0 + (1 : Int))) := by omega
theorem q_16 {x0 x1 : Int} : ((x0 - (x1 + (1 : Int))) < (x0 - x1)) := by omega
theorem q_17 {x0 x1 : Int} (h0 : (x0 < x1)) : ((0 : Int) < (x1 - x0)) := by omega
theorem q_18 {x0 : Int} (h0 : (((-(2147483648 : Int)) ≤ x0) ∧ (x0 ≤ (2147483647 : Int)))) : (inr x0) := by omega
theorem q_19 {x0 x1 : Int} (h0 : (x0 ≠ (0 : Int))) : (((x0 ≠ (0 : Int)) ∧ (x1 = x1)) ∨ ((x0 = (0 : Int)) ∧ (x1 = (x1 + (1 : Int))))) := by omega
theorem q_20 {x0 x1 : Int} (h0 : (x0 = (0 : Int))) : (((x0 ≠ (0 : Int)) ∧ ((x1 + (1 : Int)) = x1)) ∨ ((x0 = (0 : Int)) ∧ ((x1 + (1 : Int)) = (x1 + (1 : Int))))) := by omega
theorem q_21 {x0 x1 x2 : Int} (h0 : (x0 < x1)) (h1 : (((0 : Int) ≤ x2) ∧ (x2 ≤ x0))) (h2 : (((0 : Int) ≤ x1) ∧ (x1 ≤ (8001 : Int)))) : (inr (x2 + (1 : Int))) := by omega
theorem q_22 : (((-(2147483648 : Int)) ≤ (0 : Int)) ∧ ((0 : Int) ≤ (2147483647 : Int))) := by omega
theorem q_23 {x0 : Int} (h0 : (x0 < (256 : Int))) (h1 : ((0 : Int) ≤ x0)) : (((0 : Int) ≤ x0) ∧ (x0 < ((256 : Nat) : Int))) := by omega
theorem q_24 {x0 : Int} (h0 : (x0 < (256 : Int))) : (((x0 + (1 : Int)) ≤ (0 : Int)) ∨ ((x0 + (1 : Int)) ≤ (256 : Int))) := by omega
theorem q_25 {x0 : Int} (h0 : (x0 < (256 : Int))) (h1 : ((0 : Int) ≤ x0)) : (inr (x0 + (1 : Int))) := by omega
theorem q_26 {x0 : Int} : (((256 : Int) - (x0 + (1 : Int))) < ((256 : Int) - x0)) := by omega
theorem q_27 {x0 : Int} (h0 : (x0 < (256 : Int))) : ((0 : Int) < ((256 : Int) - x0)) := by omega
theorem q_28 {x0 x1 : Int} (h0 : (((0 : Int) ≤ x0) ∧ ((x0 ≤ (63 : Int)) ∧ (((0 : Int) ≤ x1) ∧ (x1 ≤ (31 : Int)))))) : (((0 : Int) ≤ x0) ∧ (x0 ≤ (63 : Int))) := by omega
theorem q_29 {x0 x1 : Int} (h0 : (((0 : Int) ≤ x0) ∧ ((x0 ≤ (2 : Int)) ∧ (((0 : Int) ≤ x1) ∧ (x1 ≤ (8000 : Int)))))) : (((0 : Int) ≤ (((8001 : Int) * x0) + x1)) ∧ ((((8001 : Int) * x0) + x1) < ((24003 : Nat) : Int))) := by omega
theorem q_30 {x0 x1 : Int} (h0 : (((0 : Int) ≤ x0) ∧ ((x0 ≤ (63 : Int)) ∧ (((0 : Int) ≤ x1) ∧ (x1 ≤ (31 : Int)))))) : (((0 : Int) ≤ x1) ∧ (x1 ≤ (31 : Int))) := by omega
theorem q_31 {x0 : Int} (h0 : (inr x0)) : (((-(2147483648 : Int)) ≤ x0) ∧ (x0 ≤ (2147483647 : Int))) := by omega
theorem q_32 : (((0 : Int) ≤ (0 : Int)) ∧ ((0 : Int) ≤ (1 : Int))) := by omega
theorem q_33 : (((0 : Int) = (0 : Int)) ∧ ((0 : Int) = (0 : Int))) := by omega
theorem q_34 : ((0 : Int) = (0 : Int)) := by omega
theorem q_35 : (((0 : Int) ≤ (1 : Int)) ∧ ((1 : Int) ≤ (1 : Int))) := by omega
theorem q_37 {x0 : Int} (h0 : (((0 : Int) ≤ x0) ∧ (x0 ≤ (1000000 : Int)))) : (inr x0) := by omega
theorem q_38 {x0 x1 : Int} (h0 : (((0 : Int) ≤ x0) ∧ ((x0 ≤ x1) ∧ (x1 ≤ (65536 : Int))))) : (inr x0) := by omega
theorem q_40 {x0 x1 : Int} (h0 : (x0 < x1)) (h1 : (((0 : Int) ≤ x0) ∧ ((x0 ≤ x1) ∧ (x1 ≤ (65536 : Int))))) : (((-(2147483648 : Int)) ≤ (x0 + (1 : Int))) ∧ ((x0 + (1 : Int)) ≤ (2147483647 : Int))) := by omega
theorem q_41 {x0 x1 : Int} (h0 : (x0 < x1)) (h1 : (((0 : Int) ≤ x0) ∧ ((x0 ≤ x1) ∧ (x1 ≤ (65536 : Int))))) : (((0 : Int) ≤ x0) ∧ (x0 < x1)) := by omega
theorem q_42 {x0 x1 : Int} (h0 : (x0 < x1)) (h1 : (((0 : Int) ≤ x0) ∧ ((x0 ≤ x1) ∧ (x1 ≤ (65536 : Int))))) : (((0 : Int) ≤ (x0 + (1 : Int))) ∧ (((x0 + (1 : Int)) ≤ x1) ∧ (x1 ≤ (65536 : Int)))) := by omega
theorem q_43 {x0 : Int} : (x0 ≤ x0) := by omega
theorem q_44 {x0 x1 x2 : Int} (h0 : (x0 < (0 : Int))) : ((((0 : Int) = (1 : Int)) ∧ (((0 : Int) ≤ x0) ∧ ((x1 + x0) ≤ x2))) ∨ (((0 : Int) = (0 : Int)) ∧ ((x0 < (0 : Int)) ∨ ((65536 : Int) < (x1 + x0))))) := by omega
theorem q_45 : (((0 : Int) = (0 : Int)) ∨ ((0 : Int) = (1 : Int))) := by omega
theorem q_46 {x0 x1 : Int} (h0 : (((0 : Int) ≤ x0) ∧ ((x0 ≤ x1) ∧ (x1 ≤ (65536 : Int))))) : (inr ((65536 : Int) - x0)) := by omega
theorem q_47 {x0 x1 : Int} (h0 : (((0 : Int) ≤ x0) ∧ ((x0 ≤ x1) ∧ (x1 ≤ (65536 : Int))))) (h1 : (((0 : Int) ≤ x1) ∧ (x1 ≤ (1000000 : Int)))) : (inr (x1 - x0)) := by omega
theorem q_48 {x0 x1 x2 : Int} (h0 : ((0 : Int) ≤ x0)) (h1 : (x0 ≤ (x1 - x2))) : ((((1 : Int) = (1 : Int)) ∧ (((0 : Int) ≤ x0) ∧ ((x2 + x0) ≤ x1))) ∨ (((1 : Int) = (0 : Int)) ∧ ((x0 < (0 : Int)) ∨ ((65536 : Int) < (x2 + x0))))) := by omega
theorem q_49 : (((1 : Int) = (0 : Int)) ∨ ((1 : Int) = (1 : Int))) := by omega
theorem q_50 {x0 : Int} (h0 : (((0 : Int) ≤ x0) ∧ (x0 ≤ (1000000 : Int)))) : (inr ((4 : Int) * x0)) := by omega
theorem q_51 {x0 x1 : Int} (h0 : ((((256 : Int) < ((4 : Int) * x0)) ∧ (x1 = ((4 : Int) * x0))) ∨ ((¬ ((256 : Int) < ((4 : Int) * x0))) ∧ (x1 = (256 : Int))))) (h1 : (((0 : Int) ≤ x0) ∧ (x0 ≤ (1000000 : Int)))) : (inr x1) := by omega
theorem q_52 : (inr (65536 : Int)) := by omega
theorem q_53 {x0 x1 x2 : Int} (h0 : ((((256 : Int) < ((4 : Int) * x0)) ∧ (x1 = ((4 : Int) * x0))) ∨ ((¬ ((256 : Int) < ((4 : Int) * x0))) ∧ (x1 = (256 : Int))))) (h1 : (((x1 < (65536 : Int)) ∧ (x2 = x1)) ∨ ((¬ (x1 < (65536 : Int))) ∧ (x2 = (65536 : Int))))) : (inr x2) := by omega
theorem q_54 {x0 x1 x2 : Int} (h0 : ((0 : Int) ≤ x0)) (h1 : (x0 ≤ ((65536 : Int) - x1))) (h2 : (((0 : Int) ≤ x1) ∧ ((x1 ≤ x2) ∧ (x2 ≤ (65536 : Int))))) : (inr (x1 + x0)) := by omega
theorem q_55 {x0 x1 x2 x3 x4 x5 : Int} (h0 : (x0 ≤ ((65536 : Int) - x1))) (h1 : ((x2 - x1) < x0)) (h2 : (((x3 < (65536 : Int)) ∧ (x4 = x3)) ∨ ((¬ (x3 < (65536 : Int))) ∧ (x4 = (65536 : Int))))) (h3 : ((((x1 + x0) < x4) ∧ (x5 = x4)) ∨ ((¬ ((x1 + x0) < x4)) ∧ (x5 = (x1 + x0))))) : ((x2 < x5) ∧ (x5 ≤ (1000000 : Int))) := by omega
theorem q_56 {x0 x1 x2 x3 x4 : Int} (h0 : ((x0 - x1) < x2)) (h1 : ((((x1 + x2) < x3) ∧ (x4 = x3)) ∨ ((¬ ((x1 + x2) < x3)) ∧ (x4 = (x1 + x2))))) (h2 : (((0 : Int) ≤ x1) ∧ ((x1 ≤ x0) ∧ (x0 ≤ (65536 : Int))))) (h3 : (((0 : Int) ≤ x4) ∧ (x4 ≤ (1000000 : Int)))) : (x0 ≤ x4) := by omega
theorem q_57 {x0 x1 x2 x3 x4 x5 : Int} (h0 : ((0 : Int) ≤ x0)) (h1 : (x0 ≤ ((65536 : Int) - x1))) (h2 : (((x2 < (65536 : Int)) ∧ (x3 = x2)) ∨ ((¬ (x2 < (65536 : Int))) ∧ (x3 = (65536 : Int))))) (h3 : ((((x1 + x0) < x3) ∧ (x4 = x3)) ∨ ((¬ ((x1 + x0) < x3)) ∧ (x4 = (x1 + x0))))) (h4 : (((0 : Int) ≤ x1) ∧ ((x1 ≤ x5) ∧ (x5 ≤ (65536 : Int))))) (h5 : (((0 : Int) ≤ x4) ∧ (x4 ≤ (1000000 : Int)))) : (((0 : Int) ≤ x1) ∧ ((x1 ≤ x4) ∧ (x4 ≤ (65536 : Int)))) := by omega
theorem q_58 {x0 x1 x2 : Int} (h0 : (((65536 : Int) - x0) < x1)) : ((((0 : Int) = (1 : Int)) ∧ (((0 : Int) ≤ x1) ∧ ((x0 + x1) ≤ x2))) ∨ (((0 : Int) = (0 : Int)) ∧ ((x1 < (0 : Int)) ∨ ((65536 : Int) < (x0 + x1))))) := by omega
theorem q_59 {x0 : Int} (h0 : (((1 : Int) ≤ x0) ∧ (x0 ≤ (8 : Int)))) : (inr x0) := by omega
theorem q_60 {x0 x1 : Int} (h0 : (x0 ≤ x1)) (h1 : (((1 : Int) ≤ x0) ∧ (x0 ≤ (8 : Int)))) (h2 : ((x1 ≤ (0 : Int)) ∨ (x1 ≤ x0))) : (x1 = x0) := by omega
theorem q_61 {x0 x1 x2 x3 x4 : Int} (h0 : (x0 < x1)) (h1 : (((0 : Int) ≤ x2) ∧ ((x2 ≤ x3) ∧ ((x3 ≤ (65536 : Int)) ∧ (x2 ≤ (16384 : Int)))))) (h2 : (((0 : Int) ≤ x4) ∧ ((x4 + x1) ≤ x2))) (h3 : ((0 : Int) ≤ x0)) : (((0 : Int) ≤ (x4 + x0)) ∧ ((x4 + x0) < x3)) := by omega
theorem q_62 {x0 x1 : Int} (h0 : (x0 < x1)) (h1 : (((1 : Int) ≤ x1) ∧ (x1 ≤ (8 : Int)))) (h2 : ((0 : Int) ≤ x0)) : (inr (x0 + (1 : Int))) := by omega
theorem q_63 : (inr (-(1 : Int))) := by omega
theorem q_64 {x0 x1 x2 : Int} : ((x0 = x0) ∧ ((x1 = x1) ∧ (x2 = x2))) := by omega
theorem q_65 : (((0 : Int) ≤ (2048 : Int)) ∧ ((2048 : Int) ≤ (1000000 : Int))) := by omega
theorem q_66 : ((2048 : Int) = (2048 : Int)) := by omega
theorem q_67 {x0 x1 x2 : Int} : ((x0 = x0) ∨ ((x0 + x1) ≤ (x2 + (1 : Int)))) := by omega
theorem q_68 {x0 x1 x2 : Int} (h0 : ((x0 ≤ x1) ∧ ((x1 ≤ (16384 : Int)) ∧ (x2 ≤ x1)))) : ((x2 ≤ x2) ∧ ((x2 ≤ x1) ∧ (x1 ≤ (16384 : Int)))) := by omega
theorem q_69 {x0 x1 x2 x3 : Int} (h0 : (((1 : Int) ≤ x0) ∧ (x0 ≤ (8 : Int)))) (h1 : ((x1 ≤ x2) ∧ ((x2 ≤ x3) ∧ (x3 ≤ (16384 : Int))))) (h2 : (((-(2147483648 : Int)) ≤ x2) ∧ (x2 ≤ (2147483647 : Int)))) : (inr (x2 + x0)) := by omega
theorem q_70 {x0 x1 x2 x3 x4 x5 x6 : Int} (h0 : ((x0 + x1) ≤ x2)) (h1 : (((0 : Int) ≤ x2) ∧ (x2 ≤ x3))) (h2 : (((0 : Int) ≤ x4) ∧ ((x4 ≤ x5) ∧ (x5 ≤ (16384 : Int))))) (h3 : ((x4 ≤ x0) ∧ ((x0 ≤ x6) ∧ (x6 ≤ (16384 : Int))))) : (((0 : Int) ≤ x0) ∧ ((x0 + x1) ≤ x3)) := by omega
theorem q_71 {x0 x1 x2 : Int} (h0 : ((x0 ≤ x1) ∧ ((x1 ≤ x2) ∧ (x2 ≤ (16384 : Int))))) (h1 : (((-(2147483648 : Int)) ≤ x1) ∧ (x1 ≤ (2147483647 : Int)))) : (inr x1) := by omega
theorem q_72 {x0 x1 : Int} (h0 : (x0 = (2048 : Int))) (h1 : (((0 : Int) ≤ x1) ∧ (x1 ≤ (2047 : Int)))) : (((0 : Int) ≤ x1) ∧ (x1 < x0)) := by omega
theorem q_73 {x0 x1 x2 x3 x4 x5 : Int} (h0 : ((x0 + x1) ≤ x2)) (h1 : (((1 : Int) ≤ x1) ∧ (x1 ≤ (8 : Int)))) (h2 : (((0 : Int) ≤ x3) ∧ ((x3 ≤ x4) ∧ (x4 ≤ (16384 : Int))))) (h3 : ((x3 ≤ x0) ∧ ((x0 ≤ x5) ∧ (x5 ≤ (16384 : Int))))) (h4 : ((x2 ≤ x5) ∧ ((x5 ≤ (16384 : Int)) ∧ (x3 ≤ x5)))) : (((0 : Int) ≤ x0) ∧ (x0 < x5)) := by omega
theorem q_74 {x0 x1 x2 : Int} (h0 : ((x0 ≤ x1) ∧ ((x1 ≤ x2) ∧ (x2 ≤ (16384 : Int))))) (h1 : (((-(2147483648 : Int)) ≤ x1) ∧ (x1 ≤ (2147483647 : Int)))) : (((-(2147483648 : Int)) ≤ (x1 + (1 : Int))) ∧ ((x1 + (1 : Int)) ≤ (2147483647 : Int))) := by omega
theorem q_75 {x0 x1 x2 x3 : Int} (h0 : ((x0 + x1) ≤ x2)) : (((x0 + (1 : Int)) = x3) ∨ (((x0 + (1 : Int)) + x1) ≤ (x2 + (1 : Int)))) := by omega
theorem q_76 {x0 x1 x2 x3 x4 : Int} (h0 : ((x0 + x1) ≤ x2)) (h1 : (((1 : Int) ≤ x1) ∧ (x1 ≤ (8 : Int)))) (h2 : ((x3 ≤ x0) ∧ ((x0 ≤ x4) ∧ (x4 ≤ (16384 : Int))))) (h3 : ((x2 ≤ x4) ∧ ((x4 ≤ (16384 : Int)) ∧ (x3 ≤ x4)))) : ((x3 ≤ (x0 + (1 : Int))) ∧ (((x0 + (1 : Int)) ≤ x4) ∧ (x4 ≤ (16384 : Int)))) := by omega
theorem q_77 {x0 x1 : Int} : (((x0 + (1 : Int)) - (x1 + (1 : Int))) < ((x0 + (1 : Int)) - x1)) := by omega
theorem q_78 {x0 x1 x2 : Int} (h0 : ((x0 + x1) ≤ x2)) (h1 : (((1 : Int) ≤ x1) ∧ (x1 ≤ (8 : Int)))) : ((0 : Int) < ((x2 + (1 : Int)) - x0)) := by omega
theorem q_79 {x0 x1 x2 : Int} (h0 : (x0 ≤ x1)) (h1 : (((0 : Int) ≤ x2) ∧ ((x2 ≤ x1) ∧ (x1 ≤ (16384 : Int))))) : ((x0 ≤ x1) ∧ ((x1 ≤ (16384 : Int)) ∧ (x2 ≤ x1))) := by omega
theorem q_80 : (inr (16384 : Int)) := by omega
theorem q_81 {x0 x1 x2 : Int} (h0 : ((((256 : Int) < ((4 : Int) * x0)) ∧ (x1 = ((4 : Int) * x0))) ∨ ((¬ ((256 : Int) < ((4 : Int) * x0))) ∧ (x1 = (256 : Int))))) (h1 : (((x1 < (16384 : Int)) ∧ (x2 = x1)) ∨ ((¬ (x1 < (16384 : Int))) ∧ (x2 = (16384 : Int))))) : (inr x2) := by omega
theorem q_82 {x0 x1 x2 x3 x4 x5 x6 : Int} (h0 : (x0 < x1)) (h1 : (((x2 < (16384 : Int)) ∧ (x3 = x2)) ∨ ((¬ (x2 < (16384 : Int))) ∧ (x3 = (16384 : Int))))) (h2 : (((x1 < x3) ∧ (x4 = x3)) ∨ ((¬ (x1 < x3)) ∧ (x4 = x1)))) (h3 : (((0 : Int) ≤ x5) ∧ ((x5 ≤ x6) ∧ ((x6 ≤ (65536 : Int)) ∧ (x5 ≤ (16384 : Int)))))) (h4 : (((0 : Int) ≤ x1) ∧ (x1 ≤ x5))) : ((x0 < x4) ∧ (x4 ≤ (1000000 : Int))) := by omega
theorem q_83 {x0 x1 x2 x3 x4 x5 x6 x7 : Int} (h0 : (x0 < x1)) (h1 : (((x2 < (16384 : Int)) ∧ (x3 = x2)) ∨ ((¬ (x2 < (16384 : Int))) ∧ (x3 = (16384 : Int))))) (h2 : (((x1 < x3) ∧ (x4 = x3)) ∨ ((¬ (x1 < x3)) ∧ (x4 = x1)))) (h3 : (((0 : Int) ≤ x5) ∧ ((x5 ≤ x6) ∧ ((x6 ≤ (65536 : Int)) ∧ (x5 ≤ (16384 : Int)))))) (h4 : (((0 : Int) ≤ x1) ∧ (x1 ≤ x5))) (h5 : (((0 : Int) ≤ x7) ∧ ((x7 ≤ x0) ∧ (x0 ≤ (16384 : Int))))) (h6 : (((0 : Int) ≤ x4) ∧ (x4 ≤ (1000000 : Int)))) : ((x1 ≤ x4) ∧ ((x4 ≤ (16384 : Int)) ∧ (x7 ≤ x4))) := by omega
theorem q_84 {x0 x1 : Int} (h0 : (((0 : Int) ≤ x0) ∧ (x0 ≤ x1))) : ((x0 ≤ x1) ∧ (x1 ≤ x1)) := by omega
theorem q_85 {x0 x1 x2 : Int} (h0 : (x0 ≤ x1)) (h1 : ((x1 ≤ x0) ∧ (x0 ≤ x2))) : (x0 = x1) := by omega
theorem q_86 {x0 x1 x2 x3 x4 x5 : Int} (h0 : (x0 < x1)) (h1 : (((0 : Int) ≤ x2) ∧ ((x2 ≤ x3) ∧ ((x3 ≤ (65536 : Int)) ∧ (x2 ≤ (16384 : Int)))))) (h2 : (((1 : Int) ≤ x4) ∧ (x4 ≤ (8 : Int)))) (h3 : (((0 : Int) ≤ x0) ∧ (x0 ≤ x5))) (h4 : ((x5 = (0 : Int)) ∨ ((x5 + x4) ≤ (x2 + (1 : Int))))) (h5 : ((x0 ≤ x1) ∧ (x1 ≤ x5))) : (((0 : Int) ≤ (x1 - (1 : Int))) ∧ (((x1 - (1 : Int)) + x4) ≤ x2)) := by omega
theorem q_87 {x0 x1 x2 : Int} (h0 : (x0 < x1)) (h1 : (((0 : Int) ≤ x0) ∧ (x0 ≤ x2))) (h2 : (((-(2147483648 : Int)) ≤ x1) ∧ (x1 ≤ (2147483647 : Int)))) : (inr (x1 - (1 : Int))) := by omega
theorem q_88 {x0 x1 x2 x3 : Int} (h0 : (x0 < x1)) (h1 : (((0 : Int) ≤ x0) ∧ (x0 ≤ x2))) (h2 : (((0 : Int) ≤ x2) ∧ ((x2 ≤ x3) ∧ (x3 ≤ (16384 : Int))))) (h3 : ((x0 ≤ x1) ∧ (x1 ≤ x2))) : (((0 : Int) ≤ (x1 - (1 : Int))) ∧ ((x1 - (1 : Int)) < x3)) := by omega
theorem q_89 {x0 x1 x2 : Int} (h0 : (x0 < x1)) (h1 : (((0 : Int) ≤ x0) ∧ (x0 ≤ x2))) (h2 : (((-(2147483648 : Int)) ≤ x1) ∧ (x1 ≤ (2147483647 : Int)))) : (((-(2147483648 : Int)) ≤ (x1 - (1 : Int))) ∧ ((x1 - (1 : Int)) ≤ (2147483647 : Int))) := by omega
theorem q_90 {x0 x1 x2 : Int} (h0 : (x0 < x1)) (h1 : ((x0 ≤ x1) ∧ (x1 ≤ x2))) : ((x0 ≤ (x1 - (1 : Int))) ∧ ((x1 - (1 : Int)) ≤ x2)) := by omega
theorem q_91 {x0 x1 : Int} : (((x0 - (1 : Int)) - x1) < (x0 - x1)) := by omega
theorem q_92 : ((0 : Int) ≤ (16384 : Int)) := by omega
theorem q_93 {x0 x1 : Int} : (((0 : Int) = (0 : Int)) ∨ ((x0 + (0 : Int)) ≤ x1)) := by omega
theorem q_94 {x0 x1 x2 : Int} (h0 : (((0 : Int) ≤ x0) ∧ ((x0 ≤ x1) ∧ (x1 ≤ (16384 : Int))))) (h1 : ((0 : Int) ≤ x2)) (h2 : (x2 ≤ (16384 : Int))) : (inr (x1 + x2)) := by omega
theorem q_95 {x0 x1 x2 x3 x4 x5 : Int} (h0 : ((x0 + x1) < x2)) (h1 : (((0 : Int) ≤ x3) ∧ ((x3 ≤ x4) ∧ ((x4 ≤ (65536 : Int)) ∧ (x3 ≤ (16384 : Int)))))) (h2 : (x2 ≤ x3)) (h3 : (((0 : Int) ≤ x5) ∧ ((x5 ≤ x0) ∧ (x0 ≤ (16384 : Int))))) (h4 : ((0 : Int) ≤ x1)) : (((0 : Int) ≤ (x5 + x1)) ∧ ((x5 + x1) < x4)) := by omega
theorem q_96 {x0 x1 x2 x3 x4 x5 : Int} (h0 : ((x0 + x1) < x2)) (h1 : (((0 : Int) ≤ x3) ∧ ((x3 ≤ x4) ∧ ((x4 ≤ (65536 : Int)) ∧ (x3 ≤ (16384 : Int)))))) (h2 : (x2 ≤ x3)) (h3 : (((0 : Int) ≤ x5) ∧ ((x5 ≤ x0) ∧ (x0 ≤ (16384 : Int))))) (h4 : ((0 : Int) ≤ x1)) : (((0 : Int) ≤ (x0 + x1)) ∧ ((x0 + x1) < x4)) := by omega
theorem q_97 {x0 : Int} (h0 : (((-(128 : Int)) ≤ x0) ∧ (x0 ≤ (127 : Int)))) : (inr x0) := by omega
theorem q_98 {x0 x1 x2 x3 x4 x5 : Int} (h0 : ((x0 + x1) < x2)) (h1 : (((0 : Int) ≤ x3) ∧ ((x3 ≤ x4) ∧ ((x4 ≤ (65536 : Int)) ∧ (x3 ≤ (16384 : Int)))))) (h2 : (x2 ≤ x3)) (h3 : (((0 : Int) ≤ x5) ∧ ((x5 ≤ x0) ∧ (x0 ≤ (16384 : Int))))) : ((x1 + (1 : Int)) ≤ (16384 : Int)) := by omega
theorem q_99 {x0 x1 x2 : Int} (h0 : ((x0 + x1) < x2)) : (((x1 + (1 : Int)) = (0 : Int)) ∨ ((x0 + (x1 + (1 : Int))) ≤ x2)) := by omega
theorem q_100 {x0 : Int} (h0 : ((0 : Int) ≤ x0)) (h1 : (x0 ≤ (16384 : Int))) : (inr (x0 + (1 : Int))) := by omega
theorem q_101 {x0 x1 x2 : Int} : (((x0 - x1) - (x2 + (1 : Int))) < ((x0 - x1) - x2)) := by omega
theorem q_102 {x0 x1 x2 : Int} (h0 : ((x0 + x1) < x2)) : ((0 : Int) < ((x2 - x0) - x1)) := by omega
theorem q_103 {x0 x1 x2 : Int} (h0 : (((0 : Int) ≤ x0) ∧ (x0 < x1))) (h1 : ((x1 ≤ x2) ∧ (x2 ≤ (16384 : Int)))) : (((0 : Int) ≤ x0) ∧ (x0 < x2)) := by omega
theorem q_104 {x0 x1 : Int} (h0 : (((-(1 : Int)) ≤ x0) ∧ (x0 < x1))) : (x0 ≤ ((x1 - (1 : Int)) - (0 : Int))) := by omega
theorem q_105 {x0 x1 x2 x3 x4 x5 : Int} (h0 : (inr x0)) (h1 : (inr x1)) (h2 : (((0 : Int) ≤ x0) ∧ (x0 < x2))) (h3 : (((-(2147483648 : Int)) ≤ x3) ∧ (x3 ≤ (2147483647 : Int)))) (h4 : (((-(2147483648 : Int)) ≤ x4) ∧ (x4 ≤ (2147483647 : Int)))) (h5 : (((-(2147483648 : Int)) ≤ x5) ∧ (x5 ≤ (2147483647 : Int)))) : (((0 : Int) = (1 : Int)) → ((x1 ≤ x4) ∧ (((x0 + x4) ≤ x3) ∧ (((1 : Int) ≤ x5) ∧ (x5 ≤ x0))))) := by omega
theorem q_106 {x0 x1 : Int} (h0 : ((0 : Int) ≤ x0)) (h1 : (inr x1)) (h2 : (((-(1 : Int)) ≤ x0) ∧ (x0 < x1))) : (inr (x1 - x0)) := by omega
theorem q_107 {x0 x1 x2 x3 : Int} (h0 : ((0 : Int) ≤ x0)) (h1 : (((0 : Int) ≤ x1) ∧ (x1 < x2))) (h2 : ((x2 ≤ x3) ∧ (x3 ≤ (16384 : Int)))) (h3 : (((-(1 : Int)) ≤ x0) ∧ (x0 < x1))) : (((0 : Int) ≤ x0) ∧ ((x0 ≤ x1) ∧ (x1 ≤ (16384 : Int)))) := by omega
theorem q_108 {x0 x1 x2 x3 : Int} (h0 : ((0 : Int) ≤ x0)) (h1 : (((0 : Int) ≤ x1) ∧ (x1 < x2))) (h2 : ((x2 ≤ x3) ∧ (x3 ≤ (16384 : Int)))) (h3 : (((-(1 : Int)) ≤ x0) ∧ (x0 < x1))) : (((0 : Int) ≤ x0) ∧ (x0 < x3)) := by omega
theorem q_109 {x0 x1 x2 x3 : Int} (h0 : (((-(1 : Int)) ≤ x0) ∧ (x0 < x1))) (h1 : (x1 ≤ ((x2 - (1 : Int)) - x3))) : (x0 ≤ ((x2 - (1 : Int)) - (x3 + (1 : Int)))) := by omega
theorem q_110 {x0 x1 x2 : Int} (h0 : (((-(1 : Int)) ≤ x0) ∧ (x0 < x1))) (h1 : (((-(1 : Int)) ≤ x1) ∧ (x1 < x2))) : (((-(1 : Int)) ≤ x0) ∧ (x0 < x2)) := by omega
theorem q_111 {x0 x1 x2 x3 : Int} (h0 : (x0 < x1)) (h1 : (((0 : Int) ≤ x1) ∧ (x1 < x2))) (h2 : ((x2 ≤ x3) ∧ (x3 ≤ (16384 : Int)))) (h3 : ((0 : Int) ≤ x0)) : (inr (x0 + (1 : Int))) := by omega
theorem q_112 {x0 : Int} (h0 : (inr x0)) (h1 : ((0 : Int) ≤ x0)) : (((-(2147483648 : Int)) ≤ x0) ∧ (x0 ≤ (2147483647 : Int))) := by omega
theorem q_113 {x0 x1 : Int} (h0 : ((0 : Int) ≤ x0)) (h1 : (inr x1)) (h2 : (((-(1 : Int)) ≤ x0) ∧ (x0 < x1))) : (((-(2147483648 : Int)) ≤ (x1 - x0)) ∧ ((x1 - x0) ≤ (2147483647 : Int))) := by omega
theorem q_114 {x0 x1 x2 x3 x4 x5 x6 x7 : Int} (h0 : ((0 : Int) ≤ x0)) (h1 : (x1 ≤ x2)) (h2 : (((0 : Int) ≤ x3) ∧ (x3 < x4))) (h3 : ((x4 ≤ x5) ∧ (x5 ≤ (16384 : Int)))) (h4 : (((1 : Int) ≤ x1) ∧ (x6 ≤ x1))) (h5 : (((-(1 : Int)) ≤ x0) ∧ (x0 < x3))) (h6 : ((x2 = (0 : Int)) ∨ ((x3 + x2) ≤ x7))) (h7 : (((-(2147483648 : Int)) ≤ x7) ∧ (x7 ≤ (2147483647 : Int)))) : (((1 : Int) = (1 : Int)) → ((x1 ≤ x2) ∧ (((x3 + x2) ≤ x7) ∧ (((1 : Int) ≤ (x3 - x0)) ∧ ((x3 - x0) ≤ x3))))) := by omega
theorem q_115 {x0 x1 x2 : Int} : (((0 : Int) = (0 : Int)) ∨ ((x0 ≤ (0 : Int)) ∧ (((x1 + (0 : Int)) ≤ x2) ∧ (((1 : Int) ≤ (0 : Int)) ∧ ((0 : Int) ≤ x1))))) := by omega
theorem q_116 {x0 x1 x2 x3 : Int} (h0 : (((0 : Int) ≤ x0) ∧ (x0 < x1))) (h1 : ((x1 ≤ x2) ∧ (x2 ≤ (16384 : Int)))) (h2 : (x3 ≤ (16384 : Int))) (h3 : (((-(2147483648 : Int)) ≤ x3) ∧ (x3 ≤ (2147483647 : Int)))) : (inr (x0 + x3)) := by omega
theorem q_117 {x0 x1 x2 x3 x4 x5 x6 x7 : Int} (h0 : ((0 : Int) ≤ x0)) (h1 : ((x1 + x2) < x3)) (h2 : (((0 : Int) ≤ x4) ∧ ((x4 ≤ x5) ∧ ((x5 ≤ (65536 : Int)) ∧ (x4 ≤ (16384 : Int)))))) (h3 : (x3 ≤ x4)) (h4 : (((1 : Int) ≤ x6) ∧ (x6 ≤ (8 : Int)))) (h5 : (((-(1 : Int)) ≤ x0) ∧ (x0 < x1))) (h6 : ((x2 = (0 : Int)) ∨ ((x6 ≤ x2) ∧ (((x1 + x2) ≤ x3) ∧ (((1 : Int) ≤ x7) ∧ (x7 ≤ x1)))))) : (((0 : Int) ≤ (x0 + x2)) ∧ ((x0 + x2) < x5)) := by omega
theorem q_118 {x0 x1 x2 x3 x4 x5 x6 x7 : Int} (h0 : ((x0 + x1) < x2)) (h1 : (((0 : Int) ≤ x3) ∧ ((x3 ≤ x4) ∧ ((x4 ≤ (65536 : Int)) ∧ (x3 ≤ (16384 : Int)))))) (h2 : (x2 ≤ x3)) (h3 : (((1 : Int) ≤ x5) ∧ (x5 ≤ (8 : Int)))) (h4 : (((0 : Int) ≤ x0) ∧ (x0 < x6))) (h5 : ((x1 = (0 : Int)) ∨ ((x5 ≤ x1) ∧ (((x0 + x1) ≤ x2) ∧ (((1 : Int) ≤ x7) ∧ (x7 ≤ x0)))))) : (((0 : Int) ≤ (x0 + x1)) ∧ ((x0 + x1) < x4)) := by omega
theorem q_119 {x0 : Int} (h0 : (x0 ≤ (16384 : Int))) (h1 : (((-(2147483648 : Int)) ≤ x0) ∧ (x0 ≤ (2147483647 : Int)))) : (inr x0) := by omega
theorem q_120 {x0 x1 x2 x3 x4 x5 : Int} (h0 : (((0 : Int) ≤ x0) ∧ ((x0 ≤ x1) ∧ ((x1 ≤ (65536 : Int)) ∧ (x0 ≤ (16384 : Int)))))) (h1 : (x2 ≤ x0)) (h2 : (((0 : Int) ≤ x3) ∧ (x3 < x4))) (h3 : ((x5 = (0 : Int)) ∨ ((x3 + x5) ≤ x2))) : (x5 ≤ (16384 : Int)) := by omega
theorem q_121 {x0 x1 : Int} (h0 : (x0 = x1)) : (x1 = x0) := by omega
theorem q_122 : (inr (2 : Int)) := by omega
theorem q_123 {x0 : Int} (h0 : (x0 = (0 : Int))) : (inr x0) := by omega
theorem q_124 {x0 x1 x2 x3 x4 x5 : Int} (h0 : (x0 = (0 : Int))) (h1 : (x0 ≤ (0 : Int))) (h2 : (inr x1)) (h3 : (((1 : Int) ≤ x2) ∧ (x2 ≤ (8 : Int)))) (h4 : (((0 : Int) ≤ x1) ∧ (x1 < x3))) (h5 : (((-(2147483648 : Int)) ≤ x4) ∧ (x4 ≤ (2147483647 : Int)))) (h6 : (((-(2147483648 : Int)) ≤ x5) ∧ (x5 ≤ (2147483647 : Int)))) : (((0 : Int) = (1 : Int)) → ((x2 ≤ x0) ∧ (((x1 + x0) ≤ x5) ∧ (((1 : Int) ≤ x4) ∧ (x4 ≤ x1))))) := by omega
theorem q_125 {x0 x1 x2 x3 x4 x5 : Int} (h0 : (x0 = (0 : Int))) (h1 : ((0 : Int) < x0)) (h2 : (inr x1)) (h3 : (((1 : Int) ≤ x2) ∧ (x2 ≤ (8 : Int)))) (h4 : (((0 : Int) ≤ x1) ∧ (x1 < x3))) (h5 : ((x0 = (0 : Int)) ∨ ((x2 ≤ x0) ∧ (((x1 + x0) ≤ x4) ∧ (((1 : Int) ≤ x5) ∧ (x5 ≤ x1)))))) (h6 : (((-(2147483648 : Int)) ≤ x5) ∧ (x5 ≤ (2147483647 : Int)))) (h7 : (((-(2147483648 : Int)) ≤ x4) ∧ (x4 ≤ (2147483647 : Int)))) : (((1 : Int) = (1 : Int)) → ((x2 ≤ x0) ∧ (((x1 + x0) ≤ x4) ∧ (((1 : Int) ≤ x5) ∧ (x5 ≤ x1))))) := by omega
theorem q_126 {x0 : Int} (h0 : ((2 : Int) ≤ x0)) (h1 : (((-(2147483648 : Int)) ≤ x0) ∧ (x0 ≤ (2147483647 : Int)))) : (inr x0) := by omega
theorem q_127 {x0 : Int} (h0 : (x0 = (2 : Int))) : ((x0 = (2 : Int)) ∨ ((3 : Int) ≤ x0)) := by omega
theorem q_128 {x0 x1 x2 x3 x4 x5 : Int} (h0 : (x0 ≤ (0 : Int))) (h1 : (inr x1)) (h2 : (((1 : Int) ≤ x2) ∧ (x2 ≤ (8 : Int)))) (h3 : (((0 : Int) ≤ x1) ∧ (x1 < x3))) (h4 : (((-(2147483648 : Int)) ≤ x0) ∧ (x0 ≤ (2147483647 : Int)))) (h5 : (((-(2147483648 : Int)) ≤ x4) ∧ (x4 ≤ (2147483647 : Int)))) (h6 : (((-(2147483648 : Int)) ≤ x5) ∧ (x5 ≤ (2147483647 : Int)))) : (((0 : Int) = (1 : Int)) → ((x2 ≤ x0) ∧ (((x1 + x0) ≤ x5) ∧ (((1 : Int) ≤ x4) ∧ (x4 ≤ x1))))) := by omega
theorem q_129 {x0 x1 x2 x3 x4 x5 : Int} (h0 : ((0 : Int) < x0)) (h1 : (inr x1)) (h2 : (((1 : Int) ≤ x2) ∧ (x2 ≤ (8 : Int)))) (h3 : (((0 : Int) ≤ x1) ∧ (x1 < x3))) (h4 : ((x0 = (0 : Int)) ∨ ((x2 ≤ x0) ∧ (((x1 + x0) ≤ x4) ∧ (((1 : Int) ≤ x5) ∧ (x5 ≤ x1)))))) (h5 : (((-(2147483648 : Int)) ≤ x5) ∧ (x5 ≤ (2147483647 : Int)))) (h6 : (((-(2147483648 : Int)) ≤ x4) ∧ (x4 ≤ (2147483647 : Int)))) : (((1 : Int) = (1 : Int)) → ((x2 ≤ x0) ∧ (((x1 + x0) ≤ x4) ∧ (((1 : Int) ≤ x5) ∧ (x5 ≤ x1))))) := by omega
theorem q_130 {x0 x1 x2 : Int} (h0 : (((0 : Int) ≤ x0) ∧ (x0 < x1))) (h1 : ((x1 ≤ x2) ∧ (x2 ≤ (16384 : Int)))) : (inr (x0 + (1 : Int))) := by omega
theorem q_131 {x0 x1 x2 : Int} (h0 : ((x0 + (1 : Int)) ≤ x1)) (h1 : (((0 : Int) ≤ x0) ∧ (x0 < x2))) (h2 : (x1 < x2)) : (((0 : Int) ≤ (x0 + (1 : Int))) ∧ ((x0 + (1 : Int)) < x2)) := by omega
theorem q_132 {x0 x1 x2 : Int} (h0 : (((0 : Int) ≤ x0) ∧ (x0 < x1))) (h1 : ((x1 ≤ x2) ∧ (x2 ≤ (16384 : Int)))) : (((-(2147483648 : Int)) ≤ (x0 + (1 : Int))) ∧ ((x0 + (1 : Int)) ≤ (2147483647 : Int))) := by omega
theorem q_133 {x0 x1 x2 x3 x4 : Int} (h0 : ((x0 = (0 : Int)) ∨ ((x1 ≤ x0) ∧ ((((x2 + (1 : Int)) + x0) ≤ x3) ∧ (((1 : Int) ≤ x4) ∧ (x4 ≤ (x2 + (1 : Int)))))))) : (((x2 + (1 : Int)) = (-(1 : Int))) ∨ ((x0 = (0 : Int)) ∨ ((x1 ≤ x0) ∧ ((((x2 + (1 : Int)) + x0) ≤ x3) ∧ (((1 : Int) ≤ x4) ∧ (x4 ≤ (x2 + (1 : Int)))))))) := by omega
theorem q_134 {x0 x1 x2 x3 x4 x5 : Int} (h0 : (inr x0)) (h1 : (((1 : Int) ≤ x1) ∧ (x1 ≤ (8 : Int)))) (h2 : (((0 : Int) ≤ x0) ∧ (x0 < x2))) (h3 : (((-(2147483648 : Int)) ≤ x3) ∧ (x3 ≤ (2147483647 : Int)))) (h4 : (((-(2147483648 : Int)) ≤ x4) ∧ (x4 ≤ (2147483647 : Int)))) (h5 : (((-(2147483648 : Int)) ≤ x5) ∧ (x5 ≤ (2147483647 : Int)))) : (((0 : Int) = (1 : Int)) → ((x1 ≤ x3) ∧ (((x0 + x3) ≤ x5) ∧ (((1 : Int) ≤ x4) ∧ (x4 ≤ x0))))) := by omega
theorem q_135 : (inr (1 : Int)) := by omega
theorem q_136 {x0 : Int} (h0 : (x0 < (2 : Int))) (h1 : (((-(2147483648 : Int)) ≤ x0) ∧ (x0 ≤ (2147483647 : Int)))) : (inr x0) := by omega
theorem q_137 {x0 : Int} (h0 : (((1 : Int) ≤ x0) ∧ (x0 ≤ (8 : Int)))) : (((1 : Int) ≤ x0) ∧ (x0 ≤ x0)) := by omega
theorem q_138 {x0 : Int} (h0 : ((x0 = (0 : Int)) ∨ (x0 = (1 : Int)))) : (inr x0) := by omega
theorem q_139 {x0 x1 x2 x3 x4 x5 : Int} (h0 : (x0 ≠ (0 : Int))) (h1 : ((x0 = (0 : Int)) ∨ (x0 = (1 : Int)))) (h2 : ((x0 = (1 : Int)) → ((x1 ≤ x2) ∧ (((x3 + x2) ≤ x4) ∧ (((1 : Int) ≤ x5) ∧ (x5 ≤ x3)))))) : (((1 : Int) = (1 : Int)) → ((x1 ≤ x2) ∧ (((x3 + x2) ≤ x4) ∧ (((1 : Int) ≤ x5) ∧ (x5 ≤ x3))))) := by omega
theorem q_140 {x0 : Int} (h0 : (((1 : Int) ≤ x0) ∧ (x0 ≤ (8 : Int)))) : (((1 : Int) ≤ (8 : Int)) ∧ (x0 ≤ (8 : Int))) := by omega
theorem q_141 : (inr (8 : Int)) := by omega
theorem q_142 {x0 x1 x2 x3 x4 x5 : Int} (h0 : (x0 ≠ (0 : Int))) (h1 : (((1 : Int) ≤ x1) ∧ (x1 ≤ (8 : Int)))) (h2 : ((x0 = (0 : Int)) ∨ (x0 = (1 : Int)))) (h3 : ((x0 = (1 : Int)) → (((8 : Int) ≤ x2) ∧ (((x3 + x2) ≤ x4) ∧ (((1 : Int) ≤ x5) ∧ (x5 ≤ x3)))))) : (((1 : Int) = (1 : Int)) → ((x1 ≤ x2) ∧ (((x3 + x2) ≤ x4) ∧ (((1 : Int) ≤ x5) ∧ (x5 ≤ x3))))) := by omega
theorem q_143 {x0 x1 x2 x3 x4 x5 : Int} (h0 : (((0 : Int) ≤ x0) ∧ ((x0 ≤ x1) ∧ (x0 ≤ (16383 : Int))))) (h1 : ((x2 = x3) ∧ ((x4 = x3) ∧ ((x3 ≤ (65536 : Int)) ∧ (((x3 = (0 : Int)) ∨ ((64 : Int) ≤ x3)) ∧ (x5 = (0 : Int))))))) (h2 : (x0 < x3)) : (((0 : Int) ≤ x0) ∧ (x0 < x2)) := by omega
theorem q_144 {x0 x1 x2 : Int} (h0 : (((0 : Int) ≤ x0) ∧ ((x0 ≤ x1) ∧ (x0 ≤ (16383 : Int))))) (h1 : (x0 < x2)) : (((0 : Int) ≤ x0) ∧ (x0 < x2)) := by omega
theorem q_145 {x0 x1 x2 : Int} (h0 : ((x0 ≤ x1) ∧ (((1 : Int) ≤ x2) ∧ (x2 ≤ (16384 : Int))))) : (inr x2) := by omega
theorem q_146 {x0 x1 x2 x3 x4 x5 : Int} (h0 : (((0 : Int) ≤ x0) ∧ ((x0 ≤ x1) ∧ (x0 ≤ (16383 : Int))))) (h1 : ((x2 = x3) ∧ ((x4 = x3) ∧ ((x3 ≤ (65536 : Int)) ∧ (((x3 = (0 : Int)) ∨ ((64 : Int) ≤ x3)) ∧ (x5 = (0 : Int))))))) (h2 : (x0 < x3)) : (((0 : Int) ≤ x0) ∧ (x0 < x4)) := by omega
theorem q_147 {x0 x1 : Int} (h0 : (((0 : Int) ≤ x0) ∧ ((x0 ≤ x1) ∧ (x0 ≤ (16383 : Int))))) : (((-(2147483648 : Int)) ≤ (x0 + (1 : Int))) ∧ ((x0 + (1 : Int)) ≤ (2147483647 : Int))) := by omega
theorem q_148 {x0 x1 : Int} (h0 : (x0 < x1)) : (((x0 + (1 : Int)) = (x0 + (1 : Int))) ∧ ((x0 + (1 : Int)) ≤ x1)) := by omega
theorem q_149 {x0 x1 : Int} (h0 : (((0 : Int) ≤ x0) ∧ ((x0 ≤ x1) ∧ (x0 ≤ (16383 : Int))))) : (inr x0) := by omega
theorem q_150 {x0 x1 : Int} (h0 : (((0 : Int) ≤ x0) ∧ ((x0 ≤ x1) ∧ (x0 ≤ (16383 : Int))))) : (inr ((4 : Int) * x0)) := by omega
theorem q_151 : (inr (64 : Int)) := by omega
theorem q_152 : (((-(2147483648 : Int)) ≤ (-(1 : Int))) ∧ ((-(1 : Int)) ≤ (2147483647 : Int))) := by omega
theorem q_153 {x0 x1 x2 x3 : Int} : (((-(1 : Int)) = (-(1 : Int))) ∨ ((x0 = (0 : Int)) ∨ ((x1 ≤ x0) ∧ ((((-(1 : Int)) + x0) ≤ x2) ∧ (((1 : Int) ≤ x3) ∧ (x3 ≤ (-(1 : Int)))))))) := by omega
theorem q_154 {x0 x1 : Int} (h0 : (((0 : Int) ≤ x0) ∧ (x0 ≤ (1000000 : Int)))) : (((0 : Int) ≤ (0 : Int)) ∧ (((0 : Int) ≤ x0) ∧ ((0 : Int) ≤ (x1 - x1)))) := by omega
theorem q_155 {x0 x1 x2 : Int} (h0 : (((0 : Int) ≤ x0) ∧ ((x0 ≤ x1) ∧ (x1 ≤ x2)))) : ((x0 ≤ x0) ∧ ((x0 ≤ x0) ∧ (x0 ≤ x1))) := by omega
theorem q_156 {x0 x1 : Int} : ((x0 ≤ x0) ∨ (x0 ≤ x1)) := by omega
theorem q_157 {x0 x1 x2 x3 x4 : Int} (h0 : (inr x0)) (h1 : (((0 : Int) ≤ x1) ∧ ((x1 ≤ x0) ∧ (x0 ≤ x2)))) (h2 : ((x1 ≤ x3) ∧ ((x3 ≤ x4) ∧ (x4 ≤ x0)))) : (((-(2147483648 : Int)) ≤ (x0 - x3)) ∧ ((x0 - x3) ≤ (2147483647 : Int))) := by omega
theorem q_158 {x0 x1 x2 x3 : Int} (h0 : ((x0 ≤ x1) ∧ ((x1 ≤ x2) ∧ (x2 ≤ x3)))) : (((0 : Int) ≤ (x3 - x1)) ∧ ((x3 - x1) ≤ (x3 - x0))) := by omega
theorem q_159 {x0 x1 x2 x3 x4 x5 : Int} (h0 : ((x0 ≤ x1) ∧ ((x1 ≤ x2) ∧ (x2 ≤ x3)))) (h1 : (((0 : Int) ≤ x4) ∧ ((x4 ≤ x5) ∧ (x4 ≤ (x1 - x0))))) : (((0 : Int) ≤ x4) ∧ ((x4 ≤ x5) ∧ (x4 ≤ (x3 - x0)))) := by omega
theorem q_160 {x0 x1 x2 : Int} (h0 : (x0 < x1)) : (((x0 + (1 : Int)) ≤ x2) ∨ ((x0 + (1 : Int)) ≤ x1)) := by omega
theorem q_161 {x0 x1 : Int} (h0 : (x0 ≤ x1)) : (x0 ≤ (x1 + (1 : Int))) := by omega
theorem q_162 {x0 x1 x2 x3 x4 : Int} (h0 : (x0 < x1)) (h1 : (((0 : Int) ≤ x2) ∧ ((x2 ≤ x3) ∧ ((x3 ≤ (65536 : Int)) ∧ (x2 ≤ (16384 : Int)))))) (h2 : (((0 : Int) ≤ x4) ∧ ((x4 ≤ x1) ∧ (x1 ≤ x2)))) (h3 : (inr x0)) : (inr (x0 + (1 : Int))) := by omega
theorem q_163 {x0 x1 x2 x3 : Int} (h0 : ((x0 ≤ x1) ∧ ((x2 < x1) ∧ (x2 < x3)))) : (x2 < x3) := by omega
theorem q_164 {x0 x1 : Int} (h0 : (((0 : Int) ≤ x0) ∧ ((x0 ≤ x1) ∧ (x1 ≤ (16384 : Int))))) : ((x0 ≤ x1) ∧ (x1 ≤ (16384 : Int))) := by omega
theorem q_165 {x0 x1 x2 x3 x4 x5 x6 x7 : Int} (h0 : (x0 ≤ x1)) (h1 : (((0 : Int) ≤ x2) ∧ ((x2 ≤ x3) ∧ (x3 ≤ x4)))) (h2 : ((x5 ≤ x3) ∧ ((x1 < x3) ∧ (x1 < x6)))) (h3 : ((x2 ≤ x7) ∧ ((x7 ≤ x0) ∧ (x0 ≤ x3)))) : (((0 : Int) ≤ x0) ∧ (x0 < x6)) := by omega
theorem q_166 {x0 x1 x2 x3 x4 x5 : Int} (h0 : (((0 : Int) ≤ x0) ∧ ((x0 ≤ x1) ∧ (x1 ≤ x2)))) (h1 : ((x3 ≤ x1) ∧ ((x4 < x1) ∧ (x4 < x5)))) : (x3 ≤ x2) := by omega
theorem q_167 {x0 x1 : Int} (h0 : (x0 ≤ x1)) : ((x0 + (1 : Int)) ≤ (x1 + (1 : Int))) := by omega
theorem q_168 {x0 x1 x2 x3 x4 x5 x6 : Int} (h0 : (x0 ≤ x1)) (h1 : ((x2 ≤ x3) ∧ ((x1 < x3) ∧ (x1 < x4)))) (h2 : ((x5 ≤ x6) ∧ ((x6 ≤ x0) ∧ (x0 ≤ x3)))) : ((x5 ≤ x6) ∧ ((x6 ≤ (x0 + (1 : Int))) ∧ ((x0 + (1 : Int)) ≤ x3))) := by omega
theorem q_169 {x0 x1 x2 x3 x4 x5 : Int} (h0 : (((0 : Int) ≤ x0) ∧ ((x0 ≤ x1) ∧ ((x1 ≤ (65536 : Int)) ∧ (x0 ≤ (16384 : Int)))))) (h1 : (((0 : Int) ≤ x2) ∧ ((x2 ≤ x3) ∧ (x3 ≤ x0)))) (h2 : (inr x4)) (h3 : ((x2 ≤ x5) ∧ ((x5 ≤ x4) ∧ (x4 ≤ x3)))) : (inr (x4 + (1 : Int))) := by omega
theorem q_170 {x0 x1 x2 x3 x4 x5 x6 x7 x8 x9 x10 : Int} (h0 : (x0 ≠ (0 : Int))) (h1 : (((0 : Int) ≤ x1) ∧ ((x1 ≤ x2) ∧ ((x2 ≤ (65536 : Int)) ∧ (x1 ≤ (16384 : Int)))))) (h2 : (((0 : Int) ≤ x3) ∧ ((x3 ≤ x4) ∧ (x4 ≤ x1)))) (h3 : ((x3 ≤ x5) ∧ ((x5 ≤ x6) ∧ (x6 ≤ x4)))) (h4 : ((x0 = (0 : Int)) ∨ (x0 = (1 : Int)))) (h5 : ((x0 = (1 : Int)) → ((x7 ≤ x8) ∧ (((x6 + x8) ≤ x9) ∧ (((1 : Int) ≤ x10) ∧ (x10 ≤ x6)))))) : ((x7 ≤ x8) ∧ (((1 : Int) ≤ x10) ∧ (x10 ≤ (16384 : Int)))) := by omega
theorem q_171 {x0 x1 x2 x3 : Int} (h0 : ((x0 ≤ x1) ∧ ((x1 ≤ x2) ∧ (x2 ≤ x3)))) : ((0 : Int) ≤ (x2 - x1)) := by omega
theorem q_172 {x0 x1 x2 x3 x4 x5 x6 x7 x8 x9 x10 : Int} (h0 : (x0 ≤ x1)) (h1 : (((0 : Int) ≤ x2) ∧ ((x2 ≤ x3) ∧ ((x3 ≤ (65536 : Int)) ∧ (x2 ≤ (16384 : Int)))))) (h2 : (((0 : Int) ≤ x4) ∧ ((x4 ≤ x5) ∧ (x5 ≤ x2)))) (h3 : ((x6 ≤ x5) ∧ ((x1 < x5) ∧ (x1 < x7)))) (h4 : ((x4 ≤ x8) ∧ ((x8 ≤ x0) ∧ (x0 ≤ x5)))) (h5 : (((0 : Int) ≤ x9) ∧ ((x9 ≤ x10) ∧ (x9 ≤ (x8 - x4))))) : (((0 : Int) ≤ x9) ∧ ((x9 ≤ x10) ∧ (x9 ≤ (16383 : Int)))) := by omega
theorem q_173 {x0 x1 x2 x3 x4 : Int} (h0 : (((0 : Int) ≤ x0) ∧ ((x0 ≤ x1) ∧ (x1 ≤ x2)))) (h1 : (inr x3)) (h2 : ((x0 ≤ x4) ∧ ((x4 ≤ x3) ∧ (x3 ≤ x1)))) : (inr (x3 - x4)) := by omega
theorem q_174 {x0 x1 x2 x3 x4 x5 x6 : Int} (h0 : (x0 ≠ (0 : Int))) (h1 : (((1 : Int) ≤ x1) ∧ (x1 ≤ (8 : Int)))) (h2 : (x2 ≤ x3)) (h3 : ((x0 = (0 : Int)) ∨ (x0 = (1 : Int)))) (h4 : ((x0 = (1 : Int)) → ((x1 ≤ x4) ∧ (((x3 + x4) ≤ x5) ∧ (((1 : Int) ≤ x6) ∧ (x6 ≤ x3)))))) : ((x2 + (1 : Int)) ≤ (x3 + x4)) := by omega
theorem q_175 {x0 x1 x2 x3 x4 x5 x6 x7 x8 x9 x10 x11 x12 : Int} (h0 : (x0 ≠ (0 : Int))) (h1 : (((1 : Int) ≤ x1) ∧ (x1 ≤ (8 : Int)))) (h2 : ((x2 ≤ x3) ∧ ((x3 ≤ x4) ∧ (x4 ≤ x5)))) (h3 : (((0 : Int) ≤ x6) ∧ ((x6 ≤ x7) ∧ (x6 ≤ (x3 - x2))))) (h4 : ((x0 = (0 : Int)) ∨ (x0 = (1 : Int)))) (h5 : ((x0 = (1 : Int)) → ((x1 ≤ x8) ∧ (((x4 + x8) ≤ x9) ∧ (((1 : Int) ≤ x10) ∧ (x10 ≤ x4)))))) (h6 : ((x11 = (x6 + (1 : Int))) ∧ (x11 ≤ x12))) : (((0 : Int) ≤ x11) ∧ ((x11 ≤ x12) ∧ (x11 ≤ ((x4 + x8) - x2)))) := by omega
theorem q_176 {x0 x1 x2 x3 x4 x5 x6 x7 x8 x9 x10 : Int} (h0 : (x0 ≠ (0 : Int))) (h1 : (((1 : Int) ≤ x1) ∧ (x1 ≤ (8 : Int)))) (h2 : ((x2 ≤ x3) ∧ ((x4 < x3) ∧ (x4 < x5)))) (h3 : (x6 ≤ x7)) (h4 : (x8 ≤ x6)) (h5 : ((x0 = (0 : Int)) ∨ (x0 = (1 : Int)))) (h6 : ((x0 = (1 : Int)) → ((x1 ≤ x9) ∧ (((x7 + x9) ≤ x2) ∧ (((1 : Int) ≤ x10) ∧ (x10 ≤ x7)))))) : ((x8 ≤ (x7 + x9)) ∧ (((x7 + x9) ≤ (x7 + x9)) ∧ ((x7 + x9) ≤ x3))) := by omega
theorem q_177 {x0 x1 x2 x3 x4 x5 x6 x7 x8 x9 x10 x11 x12 : Int} (h0 : (x0 ≠ (0 : Int))) (h1 : (((0 : Int) ≤ x1) ∧ ((x1 ≤ x2) ∧ ((x2 ≤ (65536 : Int)) ∧ (x1 ≤ (16384 : Int)))))) (h2 : (((0 : Int) ≤ x3) ∧ ((x3 ≤ x4) ∧ (x4 ≤ x1)))) (h3 : ((x5 ≤ x4) ∧ ((x6 < x4) ∧ (x6 < x7)))) (h4 : ((x3 ≤ x8) ∧ ((x8 ≤ x9) ∧ (x9 ≤ x4)))) (h5 : ((x0 = (0 : Int)) ∨ (x0 = (1 : Int)))) (h6 : ((x0 = (1 : Int)) → ((x10 ≤ x11) ∧ (((x9 + x11) ≤ x5) ∧ (((1 : Int) ≤ x12) ∧ (x12 ≤ x9)))))) (h7 : (((-(2147483648 : Int)) ≤ x11) ∧ (x11 ≤ (2147483647 : Int)))) : (inr (x9 + x11)) := by omega
theorem q_178 {x0 x1 x2 x3 x4 x5 x6 x7 x8 x9 x10 : Int} (h0 : (x0 ≤ x1)) (h1 : ((x2 = x0) ∧ ((x3 = x0) ∧ ((x4 = x0) ∧ ((x5 = x0) ∧ ((x6 = x0) ∧ ((x7 = x8) ∧ ((x9 = x8) ∧ (x10 ≤ x8))))))))) (h2 : ((x1 ≤ (0 : Int)) ∨ (x1 ≤ x0))) (h3 : (((0 : Int) ≤ x3) ∧ (x3 ≤ (1000000 : Int)))) : (x1 = x0) := by omega
theorem q_179 {x0 x1 x2 : Int} (h0 : (x0 ≤ x1)) (h1 : (x2 = x0)) (h2 : ((0 : Int) ≤ x2)) (h3 : ((x1 ≤ (0 : Int)) ∨ (x1 ≤ x0))) : (x1 = x0) := by omega
theorem q_180 {x0 x1 x2 x3 x4 x5 x6 x7 x8 x9 x10 : Int} (h0 : ((x0 = x1) ∧ ((x2 = x1) ∧ ((x3 = x1) ∧ ((x4 = x1) ∧ ((x5 = x1) ∧ ((x6 = x7) ∧ ((x8 = x7) ∧ (x9 ≤ x7))))))))) (h1 : (((0 : Int) ≤ x10) ∧ (x10 < x9))) (h2 : (((0 : Int) ≤ x7) ∧ (x7 ≤ (1000000 : Int)))) : (inr x9) := by omega
theorem q_181 {x0 x1 x2 : Int} (h0 : (x0 ≤ x1)) (h1 : (((0 : Int) ≤ x2) ∧ (x2 < x0))) (h2 : ((x1 ≤ (0 : Int)) ∨ (x1 ≤ x0))) : (x1 = x0) := by omega
theorem q_182 {x0 x1 x2 x3 x4 x5 x6 x7 x8 x9 x10 : Int} (h0 : (x0 < x1)) (h1 : ((x2 = x3) ∧ ((x4 = x3) ∧ ((x5 = x3) ∧ ((x6 = x3) ∧ ((x7 = x3) ∧ ((x8 = x9) ∧ ((x10 = x9) ∧ (x1 ≤ x9))))))))) (h2 : ((0 : Int) ≤ x0)) : (((0 : Int) ≤ x0) ∧ (x0 < x9)) := by omega
theorem q_183 {x0 x1 x2 x3 x4 x5 x6 x7 x8 x9 x10 : Int} (h0 : (x0 < x1)) (h1 : ((x2 = x3) ∧ ((x4 = x3) ∧ ((x5 = x3) ∧ ((x6 = x3) ∧ ((x7 = x3) ∧ ((x8 = x9) ∧ ((x10 = x9) ∧ (x1 ≤ x9))))))))) (h2 : ((0 : Int) ≤ x0)) : (((0 : Int) ≤ x0) ∧ (x0 < x8)) := by omega
theorem q_184 {x0 x1 x2 x3 x4 x5 x6 x7 x8 x9 x10 : Int} (h0 : (x0 < x1)) (h1 : ((x2 = x3) ∧ ((x4 = x3) ∧ ((x5 = x3) ∧ ((x6 = x3) ∧ ((x7 = x3) ∧ ((x8 = x9) ∧ ((x10 = x9) ∧ (x1 ≤ x9))))))))) (h2 : ((0 : Int) ≤ x0)) (h3 : (((0 : Int) ≤ x9) ∧ (x9 ≤ (1000000 : Int)))) : (inr (x0 + (1 : Int))) := by omega
theorem q_185 {x0 x1 x2 x3 x4 : Int} (h0 : (inr x0)) (h1 : (inr x1)) (h2 : (((x2 - x3) ≤ x4) ∨ (x1 ≤ x0))) : (((x2 - x3) ≤ (x4 + (0 : Int))) ∨ (x1 ≤ x0)) := by omega
theorem q_186 {x0 x1 x2 x3 x4 x5 x6 x7 x8 x9 x10 : Int} (h0 : (x0 < x1)) (h1 : ((x2 = x1) ∧ ((x3 = x1) ∧ ((x4 = x1) ∧ ((x5 = x1) ∧ ((x6 = x1) ∧ ((x7 = x8) ∧ ((x9 = x8) ∧ (x10 ≤ x8))))))))) (h2 : ((0 : Int) ≤ x0)) : (((0 : Int) ≤ x0) ∧ (x0 < x2)) := by omega
theorem q_187 {x0 x1 x2 x3 x4 x5 x6 : Int} (h0 : (x0 = (x1 + x2))) (h1 : (inr x3)) (h2 : (inr x4)) (h3 : (((x5 - x6) ≤ (x1 + x2)) ∨ (x4 ≤ x3))) : (((x5 - x6) ≤ x0) ∨ (x4 ≤ x3)) := by omega
theorem q_188 {x0 x1 x2 x3 x4 x5 x6 x7 x8 x9 x10 : Int} (h0 : (x0 < x1)) (h1 : ((x2 = x1) ∧ ((x3 = x1) ∧ ((x4 = x1) ∧ ((x5 = x1) ∧ ((x6 = x1) ∧ ((x7 = x8) ∧ ((x9 = x8) ∧ (x10 ≤ x8))))))))) (h2 : ((0 : Int) ≤ x0)) (h3 : (((0 : Int) ≤ x5) ∧ (x5 ≤ (1000000 : Int)))) : (inr (x0 + (1 : Int))) := by omega
theorem q_189 {x0 x1 x2 x3 x4 x5 : Int} (h0 : ((x0 + x1) < (x2 - x3))) (h1 : (x4 = ((x2 - (1 : Int)) - x3))) (h2 : (((x2 - x3) ≤ (x0 + x1)) ∨ (x5 ≤ x4))) : (x5 < (x2 - x3)) := by omega
theorem q_190 {x0 x1 x2 x3 x4 x5 x6 x7 x8 x9 x10 : Int} (h0 : ((x0 = x1) ∧ ((x2 = x1) ∧ ((x3 = x1) ∧ ((x4 = x1) ∧ ((x5 = x1) ∧ ((x6 = x7) ∧ ((x8 = x7) ∧ (x9 ≤ x7))))))))) (h1 : (((0 : Int) ≤ x10) ∧ (x10 < x9))) : (((0 : Int) ≤ x10) ∧ (x10 < x7)) := by omega
theorem q_191 {x0 x1 x2 x3 x4 x5 x6 x7 x8 x9 x10 : Int} (h0 : ((x0 = x1) ∧ ((x2 = x1) ∧ ((x3 = x1) ∧ ((x4 = x1) ∧ ((x5 = x1) ∧ ((x6 = x7) ∧ ((x8 = x7) ∧ (x9 ≤ x7))))))))) (h1 : (((0 : Int) ≤ x10) ∧ (x10 < x9))) (h2 : (((0 : Int) ≤ x7) ∧ (x7 ≤ (1000000 : Int)))) : (inr (x9 - (1 : Int))) := by omega
theorem q_192 {x0 x1 x2 x3 x4 x5 x6 x7 x8 x9 x10 x11 x12 : Int} (h0 : (x0 = (x1 / (2 : Int)))) (h1 : (x2 = (x1 / (8 : Int)))) (h2 : ((x3 = x4) ∧ ((x5 = x4) ∧ ((x6 = x4) ∧ ((x7 = x4) ∧ ((x8 = x4) ∧ ((x9 = x10) ∧ ((x11 = x10) ∧ (x1 ≤ x10))))))))) (h3 : (((0 : Int) ≤ x12) ∧ (x12 < x1))) (h4 : (((0 : Int) ≤ x10) ∧ (x10 ≤ (1000000 : Int)))) : (inr (x12 + ((x0 + x2) + (3 : Int)))) := by omega
theorem q_193 {x0 x1 x2 : Int} (h0 : (((0 : Int) ≤ (x0 - (1 : Int))) → (((0 : Int) ≤ x1) ∧ (x1 ≤ (x0 - (1 : Int)))))) (h1 : (((0 : Int) ≤ x2) ∧ (x2 < x0))) : (((0 : Int) ≤ x1) ∧ (x1 < x0)) := by omega
theorem q_194 {x0 x1 x2 : Int} (h0 : (x0 < x1)) (h1 : (x2 = x1)) : ((0 : Int) < (x2 - x0)) := by omega
theorem q_195 {x0 x1 x2 x3 x4 x5 x6 x7 x8 x9 x10 : Int} (h0 : (x0 < x1)) (h1 : ((x2 = x1) ∧ ((x3 = x1) ∧ ((x4 = x1) ∧ ((x5 = x1) ∧ ((x6 = x1) ∧ ((x7 = x8) ∧ ((x9 = x8) ∧ (x10 ≤ x8))))))))) (h2 : ((0 : Int) ≤ x0)) : (((0 : Int) ≤ x0) ∧ (x0 < x3)) := by omega
theorem q_196 {x0 x1 x2 x3 x4 x5 x6 x7 x8 x9 x10 : Int} (h0 : (x0 < x1)) (h1 : ((x2 = x1) ∧ ((x3 = x1) ∧ ((x4 = x1) ∧ ((x5 = x1) ∧ ((x6 = x1) ∧ ((x7 = x8) ∧ ((x9 = x8) ∧ (x10 ≤ x8))))))))) (h2 : ((0 : Int) ≤ x0)) : (((0 : Int) ≤ x0) ∧ (x0 < x5)) := by omega
theorem q_197 {x0 x1 x2 x3 x4 x5 x6 x7 x8 x9 x10 : Int} (h0 : (x0 < x1)) (h1 : ((x2 = x1) ∧ ((x3 = x1) ∧ ((x4 = x1) ∧ ((x5 = x1) ∧ ((x6 = x1) ∧ ((x7 = x8) ∧ ((x9 = x8) ∧ (x10 ≤ x8))))))))) (h2 : ((0 : Int) ≤ x0)) : (((0 : Int) ≤ x0) ∧ (x0 < x6)) := by omega
theorem q_198 {x0 x1 x2 x3 x4 x5 x6 x7 x8 x9 x10 : Int} (h0 : (x0 < x1)) (h1 : ((x2 = x1) ∧ ((x3 = x1) ∧ ((x4 = x1) ∧ ((x5 = x1) ∧ ((x6 = x1) ∧ ((x7 = x8) ∧ ((x9 = x8) ∧ (x10 ≤ x8))))))))) (h2 : ((0 : Int) ≤ x0)) : (((0 : Int) ≤ x0) ∧ (x0 < x4)) := by omega
theorem q_199 {x0 x1 : Int} (h0 : ((0 : Int) < x0)) (h1 : (x1 = (x0 / (2 : Int)))) : (x1 < x0) := by omega
theorem q_200 {x0 : Int} (h0 : ((0 : Int) < x0)) : ((0 : Int) < x0) := by omega
theorem q_201 {x0 x1 x2 : Int} (h0 : ((0 : Int) ≤ x0)) (h1 : (x1 = x0)) (h2 : (x1 = x2)) (h3 : (inr x2)) : (((x0 ≥ (0 : Int)) ∧ (((-(2147483648 : Int)) ≤ x1) ∧ ((x1 ≤ (2147483647 : Int)) ∧ (x2 = x1)))) ∨ ((x0 < (0 : Int)) ∧ (x2 = (1 : Int)))) := by omega
theorem q_202 {x0 x1 : Int} (h0 : (x0 < (0 : Int))) : (((x0 ≥ (0 : Int)) ∧ (((-(2147483648 : Int)) ≤ x1) ∧ ((x1 ≤ (2147483647 : Int)) ∧ ((1 : Int) = x1)))) ∨ ((x0 < (0 : Int)) ∧ ((1 : Int) = (1 : Int)))) := by omega
theorem q_203 {x0 x1 x2 : Int} (h0 : (((0 : Int) ≤ x0) ∧ ((x0 ≤ x1) ∧ ((x1 ≤ ((8 : Int) * x2)) ∧ (x2 ≤ (65536 : Int)))))) : (inr (x1 - x0)) := by omega
theorem q_204 {x0 x1 : Int} (h0 : (x0 ≤ x1)) (h1 : (((0 : Int) ≤ x0) ∧ (x0 ≤ (16 : Int)))) (h2 : ((x1 ≤ (0 : Int)) ∨ (x1 ≤ x0))) : (x1 = x0) := by omega
theorem q_205 {x0 x1 x2 x3 : Int} (h0 : (x0 ≤ (x1 - x2))) (h1 : (((0 : Int) ≤ x2) ∧ ((x2 ≤ x1) ∧ ((x1 ≤ ((8 : Int) * x3)) ∧ (x3 ≤ (65536 : Int)))))) (h2 : (((0 : Int) ≤ x0) ∧ (x0 ≤ (16 : Int)))) : (((-(2147483648 : Int)) ≤ (x2 + x0)) ∧ ((x2 + x0) ≤ (2147483647 : Int))) := by omega
theorem q_206 {x0 x1 x2 x3 x4 x5 : Int} (h0 : (((0 : Int) ≤ x0) ∧ ((x0 ≤ x1) ∧ ((x1 ≤ ((8 : Int) * x2)) ∧ (x2 ≤ (65536 : Int)))))) (h1 : (((0 : Int) ≤ x3) ∧ (x3 ≤ (16 : Int)))) (h2 : (((0 : Int) ≤ x4) ∧ (x4 < x5))) : ((x4 = (-(1 : Int))) → ((x1 - x0) < x3)) := by omega
theorem q_207 {x0 x1 x2 x3 x4 x5 : Int} (h0 : (x0 ≤ (x1 - x2))) (h1 : (x3 < x4)) (h2 : (((0 : Int) ≤ x3) ∧ (x3 < x5))) : (((x3 = (-(1 : Int))) ∧ ((x2 + x0) = x2)) ∨ (((0 : Int) ≤ x3) ∧ ((x3 < x4) ∧ (((x2 + x0) = (x2 + x0)) ∧ ((x2 + x0) ≤ x1))))) := by omega
theorem q_208 {x0 x1 x2 x3 x4 : Int} (h0 : (x0 ≤ (x1 - x2))) (h1 : (x3 < x0)) (h2 : (((0 : Int) ≤ x2) ∧ ((x2 ≤ x1) ∧ ((x1 ≤ ((8 : Int) * x4)) ∧ (x4 ≤ (65536 : Int)))))) (h3 : ((0 : Int) ≤ x3)) : (inr (x2 + x3)) := by omega
theorem q_209 {x0 x1 : Int} (h0 : (x0 < x1)) (h1 : (((0 : Int) ≤ x1) ∧ (x1 ≤ (16 : Int)))) (h2 : ((0 : Int) ≤ x0)) : (inr (x0 + (1 : Int))) := by omega
theorem q_210 {x0 x1 x2 : Int} (h0 : ((x0 - x1) < x2)) : (((-(1 : Int)) = (-(1 : Int))) → ((x0 - x1) < x2)) := by omega
theorem q_211 {x0 x1 x2 x3 : Int} : ((((-(1 : Int)) = (-(1 : Int))) ∧ (x0 = x0)) ∨ (((0 : Int) ≤ (-(1 : Int))) ∧ (((-(1 : Int)) < x1) ∧ ((x0 = (x0 + x2)) ∧ (x0 ≤ x3))))) := by omega
theorem q_212 {x0 x1 x2 : Int} (h0 : (((0 : Int) ≤ x0) ∧ ((x0 ≤ x1) ∧ ((x1 ≤ x2) ∧ (x2 ≤ (65536 : Int)))))) : (((-(2147483648 : Int)) ≤ ((8 : Int) * x0)) ∧ (((8 : Int) * x0) ≤ (2147483647 : Int))) := by omega
theorem q_213 {x0 x1 x2 : Int} (h0 : (((0 : Int) ≤ x0) ∧ ((x0 ≤ x1) ∧ ((x1 ≤ x2) ∧ (x2 ≤ (65536 : Int)))))) : (((-(2147483648 : Int)) ≤ ((8 : Int) * x1)) ∧ (((8 : Int) * x1) ≤ (2147483647 : Int))) := by omega
theorem q_214 : (((0 : Int) ≤ (4 : Int)) ∧ ((4 : Int) ≤ (16 : Int))) := by omega
theorem q_215 {x0 x1 x2 : Int} (h0 : (((0 : Int) ≤ x0) ∧ ((x0 ≤ x1) ∧ ((x1 ≤ x2) ∧ (x2 ≤ (65536 : Int)))))) : (((0 : Int) ≤ ((8 : Int) * x0)) ∧ ((((8 : Int) * x0) ≤ ((8 : Int) * x1)) ∧ ((((8 : Int) * x1) ≤ ((8 : Int) * x2)) ∧ (x2 ≤ (65536 : Int))))) := by omega
theorem q_216 : (inr (4 : Int)) := by omega
theorem q_217 {x0 x1 : Int} : ((((-(1 : Int)) = (-(1 : Int))) ∧ (x0 = x0)) ∨ (((5 : Int) ≤ x0) ∧ (x0 ≤ x1))) := by omega
theorem q_218 {x0 x1 : Int} : (((-(1 : Int)) = (-(1 : Int))) ∨ ((x0 ≤ (-(1 : Int))) ∧ ((-(1 : Int)) ≤ x1))) := by omega
theorem q_219 {x0 x1 x2 x3 x4 : Int} (h0 : ((0 : Int) ≤ x0)) (h1 : (x1 = (16 : Int))) (h2 : (((x0 = (-(1 : Int))) ∧ (x2 = ((8 : Int) * x3))) ∨ (((0 : Int) ≤ x0) ∧ ((x0 < x1) ∧ ((x2 = (((8 : Int) * x3) + (4 : Int))) ∧ (x2 ≤ ((8 : Int) * x4))))))) : (inr (x0 + (5 : Int))) := by omega
theorem q_220 {x0 x1 x2 x3 : Int} (h0 : ((0 : Int) ≤ x0)) (h1 : ((x0 + (5 : Int)) ≤ x1)) (h2 : (((5 : Int) ≤ x1) ∧ ((x1 ≤ (9 : Int)) ∧ (x2 ≤ x3)))) : (((5 : Int) ≤ (x0 + (5 : Int))) ∧ ((x0 + (5 : Int)) ≤ (9 : Int))) := by omega
theorem q_221 {x0 : Int} (h0 : (((5 : Int) ≤ (x0 + (5 : Int))) ∧ ((x0 + (5 : Int)) ≤ (9 : Int)))) : (((-(2147483648 : Int)) ≤ (x0 + (5 : Int))) ∧ ((x0 + (5 : Int)) ≤ (2147483647 : Int))) := by omega
theorem q_222 {x0 : Int} (h0 : (((5 : Int) ≤ (x0 + (5 : Int))) ∧ ((x0 + (5 : Int)) ≤ (9 : Int)))) : (((0 : Int) ≤ (x0 + (5 : Int))) ∧ ((x0 + (5 : Int)) ≤ (31 : Int))) := by omega
theorem q_223 {x0 x1 x2 x3 x4 x5 : Int} (h0 : (((0 : Int) ≤ x0) ∧ ((x0 ≤ x1) ∧ ((x1 ≤ x2) ∧ (x2 ≤ (65536 : Int)))))) (h1 : (((x3 = (-(1 : Int))) ∧ (x4 = ((8 : Int) * x0))) ∨ (((0 : Int) ≤ x3) ∧ ((x3 < x5) ∧ ((x4 = (((8 : Int) * x0) + (4 : Int))) ∧ (x4 ≤ ((8 : Int) * x1))))))) : ((((8 : Int) * x0) ≤ x4) ∧ (x4 ≤ ((8 : Int) * x1))) := by omega
theorem q_224 {x0 x1 : Int} (h0 : (x0 = (0 : Int))) : (x0 = (x1 - x1)) := by omega
theorem q_225 {x0 x1 x2 x3 x4 x5 x6 x7 x8 : Int} (h0 : ((x0 = x1) ∧ ((x2 = x1) ∧ ((x3 = x1) ∧ ((x4 = x1) ∧ ((x5 = x1) ∧ ((x6 = x7) ∧ ((x8 = x7) ∧ (((1 : Int) ≤ x1) ∧ (x1 ≤ (64 : Int))))))))))) : (((0 : Int) ≤ (0 : Int)) ∧ ((0 : Int) ≤ x1)) := by omega
theorem q_226 {x0 : Int} (h0 : (((5 : Int) ≤ (x0 + (5 : Int))) ∧ ((x0 + (5 : Int)) ≤ (9 : Int)))) : (inr (x0 + (5 : Int))) := by omega
theorem q_227 {x0 x1 x2 x3 : Int} (h0 : (((0 : Int) ≤ x0) ∧ ((x0 ≤ x1) ∧ ((x1 ≤ x2) ∧ (x2 ≤ (65536 : Int)))))) (h1 : ((((8 : Int) * x0) ≤ x3) ∧ (x3 ≤ ((8 : Int) * x1)))) (h2 : (((-(2147483648 : Int)) ≤ x3) ∧ (x3 ≤ (2147483647 : Int)))) : (inr (x3 + (7 : Int))) := by omega
theorem q_228 {x0 x1 x2 x3 : Int} (h0 : ((x0 + (5 : Int)) ≤ x1)) (h1 : (((5 : Int) ≤ (x0 + (5 : Int))) ∧ ((x0 + (5 : Int)) ≤ (9 : Int)))) : (((x2 = (-(1 : Int))) ∧ ((x0 + (5 : Int)) = x3)) ∨ (((5 : Int) ≤ (x0 + (5 : Int))) ∧ ((x0 + (5 : Int)) ≤ x1))) := by omega
theorem q_229 {x0 x1 x2 x3 : Int} (h0 : (x0 = ((x1 + (7 : Int)) / (8 : Int)))) (h1 : ((((8 : Int) * x2) ≤ x1) ∧ (x1 ≤ ((8 : Int) * x3)))) : ((x0 = (-(1 : Int))) ∨ ((x2 ≤ x0) ∧ (x0 ≤ x3))) := by omega
theorem q_230 {x0 x1 x2 : Int} (h0 : ((x0 + (5 : Int)) ≤ x1)) (h1 : (((5 : Int) ≤ (x0 + (5 : Int))) ∧ ((x0 + (5 : Int)) ≤ (9 : Int)))) : ((((-(1 : Int)) = (-(1 : Int))) ∧ ((x0 + (5 : Int)) = x2)) ∨ (((5 : Int) ≤ (x0 + (5 : Int))) ∧ ((x0 + (5 : Int)) ≤ x1))) := by omega
theorem q_231 {x0 x1 x2 x3 x4 x5 x6 x7 x8 : Int} (h0 : ((x0 = x1) ∧ ((x2 = x1) ∧ ((x3 = x1) ∧ ((x4 = x1) ∧ ((x5 = x1) ∧ ((x6 = x7) ∧ ((x8 = x7) ∧ (((1 : Int) ≤ x1) ∧ (x1 ≤ (64 : Int))))))))))) : (inr x1) := by omega
theorem q_232 {x0 x1 x2 : Int} (h0 : (x0 ≤ x1)) : ((x1 ≥ x0) ∨ ((x1 < x0) ∧ (x2 ≤ (0 : Int)))) := by omega
theorem q_233 {x0 x1 x2 : Int} (h0 : (x0 < x1)) (h1 : (x2 ≤ (0 : Int))) : ((x0 ≥ x1) ∨ ((x0 < x1) ∧ (x2 ≤ (0 : Int)))) := by omega
theorem q_234 {x0 x1 x2 : Int} (h0 : (((0 : Int) ≤ x0) ∧ ((x0 ≤ (9 : Int)) ∧ ((x1 + (1 : Int)) < ((2 : Int) * x2))))) : (((0 : Int) ≤ x0) ∧ (x0 ≤ (16 : Int))) := by omega
theorem q_235 {x0 x1 x2 x3 : Int} (h0 : (((0 : Int) ≤ x0) ∧ ((x0 ≤ x1) ∧ ((x1 ≤ x2) ∧ (x2 ≤ (65536 : Int)))))) (h1 : ((((8 : Int) * x0) ≤ x3) ∧ (x3 ≤ ((8 : Int) * x1)))) : (((0 : Int) ≤ x3) ∧ ((x3 ≤ ((8 : Int) * x1)) ∧ ((((8 : Int) * x1) ≤ ((8 : Int) * x2)) ∧ (x2 ≤ (65536 : Int))))) := by omega
theorem q_236 {x0 x1 x2 : Int} (h0 : (((0 : Int) ≤ x0) ∧ ((x0 ≤ (9 : Int)) ∧ ((x1 + (1 : Int)) < ((2 : Int) * x2))))) : (((0 : Int) ≤ x0) ∧ (x0 ≤ (31 : Int))) := by omega
theorem q_237 {x0 : Int} (h0 : ((0 : Int) ≤ x0)) (h1 : (inr x0)) : (inr (x0 - (1 : Int))) := by omega
theorem q_238 {x0 x1 x2 x3 x4 x5 x6 x7 x8 x9 : Int} (h0 : (x0 < x1)) (h1 : ((x2 = x1) ∧ ((x3 = x1) ∧ ((x4 = x1) ∧ ((x5 = x1) ∧ ((x6 = x1) ∧ ((x7 = x8) ∧ ((x9 = x8) ∧ (((1 : Int) ≤ x1) ∧ (x1 ≤ (64 : Int))))))))))) (h2 : (((0 : Int) ≤ x0) ∧ (x0 ≤ x1))) : (((0 : Int) ≤ x0) ∧ (x0 < x2)) := by omega
theorem q_239 {x0 x1 x2 : Int} (h0 : (((0 : Int) ≤ x0) ∧ (x0 ≤ x1))) : ((x2 ≠ (3 : Int)) ∨ (((3 : Int) * (0 : Int)) ≤ x0)) := by omega
theorem q_240 {x0 x1 : Int} (h0 : (((x0 ≠ (1 : Int)) ∧ (x1 = (0 : Int))) ∨ ((x0 = (1 : Int)) ∧ (x1 = (3 : Int))))) : (((0 : Int) ≤ x1) ∧ (x1 ≤ (3 : Int))) := by omega
theorem q_241 {x0 x1 : Int} (h0 : (x0 < x1)) (h1 : (((0 : Int) ≤ x0) ∧ (x0 ≤ x1))) : (((0 : Int) ≤ x0) ∧ ((x0 ≤ x0) ∧ (x0 < x1))) := by omega
theorem q_242 {x0 x1 x2 : Int} (h0 : (((0 : Int) ≤ x0) ∧ ((x1 ≤ x0) ∧ (x0 < x2)))) : (((0 : Int) ≤ (x0 + (1 : Int))) ∧ ((x0 + (1 : Int)) ≤ x2)) := by omega
theorem q_243 {x0 x1 x2 x3 x4 x5 x6 x7 x8 x9 x10 : Int} (h0 : ((x0 = x1) ∧ ((x2 = x1) ∧ ((x3 = x1) ∧ ((x4 = x1) ∧ ((x5 = x1) ∧ ((x6 = x7) ∧ ((x8 = x7) ∧ (((1 : Int) ≤ x1) ∧ (x1 ≤ (64 : Int))))))))))) (h1 : (((0 : Int) ≤ x9) ∧ ((x10 ≤ x9) ∧ (x9 < x1)))) : (inr (x9 + (1 : Int))) := by omega
theorem q_244 {x0 x1 x2 : Int} (h0 : ((0 : Int) < x0)) (h1 : ((0 : Int) ≤ x1)) (h2 : (((0 : Int) ≤ x0) ∧ (x0 ≤ (512 : Int)))) (h3 : (inr x2)) (h4 : (((x1 ≠ (0 : Int)) ∧ (x2 = (x1 - (1 : Int)))) ∨ ((x1 = (0 : Int)) ∧ (x2 = (1 : Int))))) : (inr (x0 - x2)) := by omega
theorem q_245 {x0 x1 x2 : Int} (h0 : (((0 : Int) ≤ x0) ∧ ((x1 ≤ x0) ∧ (x0 < x2)))) : ((x2 - (x0 + (1 : Int))) < (x2 - x1)) := by omega
theorem q_246 : (inr (3 : Int)) := by omega
theorem q_247 : (((0 : Int) ≤ (2 : Int)) ∧ ((2 : Int) ≤ (16 : Int))) := by omega
theorem q_248 {x0 x1 x2 x3 x4 x5 x6 x7 x8 x9 x10 x11 x12 x13 x14 x15 : Int} (h0 : ((0 : Int) ≤ x0)) (h1 : ((x1 = x2) ∧ ((x3 = x2) ∧ ((x4 = x2) ∧ ((x5 = x2) ∧ ((x6 = x2) ∧ ((x7 = x8) ∧ ((x9 = x8) ∧ (((1 : Int) ≤ x2) ∧ (x2 ≤ (64 : Int))))))))))) (h2 : (x10 = (4 : Int))) (h3 : (inr x11)) (h4 : (((0 : Int) ≤ x11) ∧ ((x12 ≤ x11) ∧ (x11 < x2)))) (h5 : (((x0 = (-(1 : Int))) ∧ (x13 = x14)) ∨ (((0 : Int) ≤ x0) ∧ ((x0 < x10) ∧ ((x13 = (x14 + (2 : Int))) ∧ (x13 ≤ ((8 : Int) * x15))))))) : (inr (x11 + x0)) := by omega
theorem q_249 {x0 x1 x2 x3 x4 x5 : Int} (h0 : ((((8 : Int) * x0) ≤ x1) ∧ (x1 ≤ ((8 : Int) * x2)))) (h1 : (((x3 = (-(1 : Int))) ∧ (x4 = x1)) ∨ (((0 : Int) ≤ x3) ∧ ((x3 < x5) ∧ ((x4 = (x1 + (2 : Int))) ∧ (x4 ≤ ((8 : Int) * x2))))))) : ((((8 : Int) * x0) ≤ x4) ∧ (x4 ≤ ((8 : Int) * x2))) := by omega
theorem q_250 {x0 x1 x2 x3 x4 : Int} (h0 : ((0 : Int) ≤ x0)) (h1 : (x1 = (4 : Int))) (h2 : (((x0 = (-(1 : Int))) ∧ (x2 = x3)) ∨ (((0 : Int) ≤ x0) ∧ ((x0 < x1) ∧ ((x2 = (x3 + (2 : Int))) ∧ (x2 ≤ ((8 : Int) * x4))))))) : (((0 : Int) ≤ x0) ∧ (x0 ≤ (3 : Int))) := by omega
theorem q_251 {x0 x1 x2 x3 : Int} (h0 : ((0 : Int) ≤ x0)) (h1 : ((x1 + x0) < x2)) (h2 : (((0 : Int) ≤ x1) ∧ ((x3 ≤ x1) ∧ (x1 < x2)))) : (((0 : Int) ≤ (x1 + x0)) ∧ ((x3 ≤ (x1 + x0)) ∧ ((x1 + x0) < x2))) := by omega
theorem q_252 {x0 x1 x2 x3 x4 x5 x6 x7 x8 x9 : Int} (h0 : (x0 < x1)) (h1 : ((x2 = x1) ∧ ((x3 = x1) ∧ ((x4 = x1) ∧ ((x5 = x1) ∧ ((x6 = x1) ∧ ((x7 = x8) ∧ ((x9 = x8) ∧ (((1 : Int) ≤ x1) ∧ (x1 ≤ (64 : Int))))))))))) (h2 : ((0 : Int) ≤ x0)) : (inr (x0 + (1 : Int))) := by omega
theorem q_253 {x0 x1 x2 x3 x4 x5 x6 x7 x8 x9 x10 x11 : Int} (h0 : ((0 : Int) ≤ x0)) (h1 : ((x1 + x0) < x2)) (h2 : ((x3 = x2) ∧ ((x4 = x2) ∧ ((x5 = x2) ∧ ((x6 = x2) ∧ ((x7 = x2) ∧ ((x8 = x9) ∧ ((x10 = x9) ∧ (((1 : Int) ≤ x2) ∧ (x2 ≤ (64 : Int))))))))))) (h3 : (((0 : Int) ≤ x1) ∧ ((x11 ≤ x1) ∧ (x1 < x2)))) : (inr (x1 + x0)) := by omega
theorem q_254 {x0 : Int} (h0 : (x0 ≠ (1 : Int))) : (((x0 ≠ (1 : Int)) ∧ ((0 : Int) = (0 : Int))) ∨ ((x0 = (1 : Int)) ∧ ((0 : Int) = (3 : Int)))) := by omega
theorem q_255 {x0 : Int} (h0 : (x0 = (1 : Int))) : (((x0 ≠ (1 : Int)) ∧ ((3 : Int) = (0 : Int))) ∨ ((x0 = (1 : Int)) ∧ ((3 : Int) = (3 : Int)))) := by omega
theorem q_256 {x0 : Int} (h0 : (x0 ≠ (0 : Int))) : (((x0 ≠ (0 : Int)) ∧ ((x0 - (1 : Int)) = (x0 - (1 : Int)))) ∨ ((x0 = (0 : Int)) ∧ ((x0 - (1 : Int)) = (1 : Int)))) := by omega
theorem q_257 {x0 : Int} (h0 : (x0 = (0 : Int))) : (((x0 ≠ (0 : Int)) ∧ ((1 : Int) = (x0 - (1 : Int)))) ∨ ((x0 = (0 : Int)) ∧ ((1 : Int) = (1 : Int)))) := by omega
theorem q_258 {x0 x1 x2 : Int} (h0 : (x0 ≤ (x1 + (1 : Int)))) (h1 : (((0 : Int) ≤ x1) ∧ (x1 ≤ (512 : Int)))) (h2 : (((0 : Int) ≤ x2) ∧ ((x2 ≤ (9 : Int)) ∧ ((x1 + (1 : Int)) < ((2 : Int) * x0))))) : (inr ((((2 : Int) * x0) - (2 : Int)) - x1)) := by omega
theorem q_259 {x0 x1 x2 x3 x4 x5 x6 x7 : Int} (h0 : ((((8 : Int) * x0) ≤ x1) ∧ (x1 ≤ ((8 : Int) * x2)))) (h1 : (((0 : Int) ≤ x3) ∧ ((x3 ≤ (9 : Int)) ∧ ((x4 + (1 : Int)) < ((2 : Int) * x5))))) (h2 : (((x6 = (-(1 : Int))) ∧ (x7 = x1)) ∨ (((0 : Int) ≤ x6) ∧ ((x6 < x5) ∧ ((x7 = (x1 + x3)) ∧ (x7 ≤ ((8 : Int) * x2))))))) : ((((8 : Int) * x0) ≤ x7) ∧ (x7 ≤ ((8 : Int) * x2))) := by omega
theorem q_260 {x0 x1 x2 x3 x4 x5 x6 : Int} (h0 : (x0 < ((((2 : Int) * x1) - (2 : Int)) - x2))) (h1 : (x1 ≤ (x2 + (1 : Int)))) (h2 : (((x0 = (-(1 : Int))) ∧ (x3 = x4)) ∨ (((0 : Int) ≤ x0) ∧ ((x0 < x1) ∧ ((x3 = (x4 + x5)) ∧ (x3 ≤ ((8 : Int) * x6))))))) : (((-(1 : Int)) ≤ x0) ∧ (x0 ≤ (x2 + (1 : Int)))) := by omega
theorem q_261 : (((0 : Int) ≤ (1 : Int)) ∧ ((1 : Int) ≤ (16 : Int))) := by omega
theorem q_262 {x0 x1 x2 x3 x4 x5 x6 x7 x8 : Int} (h0 : (((0 : Int) ≤ x0) ∧ ((x0 ≤ x1) ∧ ((x1 ≤ x2) ∧ (x2 ≤ (65536 : Int)))))) (h1 : ((((8 : Int) * x0) ≤ x3) ∧ (x3 ≤ ((8 : Int) * x1)))) (h2 : (((0 : Int) ≤ x4) ∧ ((x4 ≤ (9 : Int)) ∧ ((x5 + (1 : Int)) < ((2 : Int) * x6))))) (h3 : (((x7 = (-(1 : Int))) ∧ (x8 = x3)) ∨ (((0 : Int) ≤ x7) ∧ ((x7 < x6) ∧ ((x8 = (x3 + x4)) ∧ (x8 ≤ ((8 : Int) * x1))))))) : (((0 : Int) ≤ x8) ∧ ((x8 ≤ ((8 : Int) * x1)) ∧ ((((8 : Int) * x1) ≤ ((8 : Int) * x2)) ∧ (x2 ≤ (65536 : Int))))) := by omega
theorem q_263 {x0 x1 x2 : Int} (h0 : (x0 ≤ (x1 + (1 : Int)))) (h1 : (((0 : Int) ≤ x1) ∧ (x1 ≤ (512 : Int)))) (h2 : (((0 : Int) ≤ x2) ∧ ((x2 ≤ (9 : Int)) ∧ ((x1 + (1 : Int)) < ((2 : Int) * x0))))) : (inr x0) := by omega
theorem q_264 {x0 x1 x2 x3 x4 x5 x6 x7 x8 x9 x10 x11 : Int} (h0 : (((0 : Int) ≤ x0) ∧ ((x0 ≤ x1) ∧ ((x1 ≤ x2) ∧ (x2 ≤ (65536 : Int)))))) (h1 : ((x3 = (0 : Int)) ∨ (x3 = (1 : Int)))) (h2 : ((((8 : Int) * x0) ≤ x4) ∧ (x4 ≤ ((8 : Int) * x1)))) (h3 : (((0 : Int) ≤ x5) ∧ ((x5 ≤ (9 : Int)) ∧ ((x6 + (1 : Int)) < ((2 : Int) * x7))))) (h4 : (((x8 = (-(1 : Int))) ∧ (x9 = x4)) ∨ (((0 : Int) ≤ x8) ∧ ((x8 < x7) ∧ ((x9 = (x4 + x5)) ∧ (x9 ≤ ((8 : Int) * x1))))))) (h5 : (((x3 = (-(1 : Int))) ∧ (x10 = x9)) ∨ (((0 : Int) ≤ x3) ∧ ((x3 < x11) ∧ ((x10 = (x9 + (1 : Int))) ∧ (x10 ≤ ((8 : Int) * x1))))))) (h6 : (((-(2147483648 : Int)) ≤ x10) ∧ (x10 ≤ (2147483647 : Int)))) : ((((8 : Int) * x0) ≤ x10) ∧ (x10 ≤ ((8 : Int) * x1))) := by omega
theorem q_265 {x0 x1 x2 x3 x4 x5 : Int} (h0 : (((((2 : Int) * x0) - (2 : Int)) - x1) ≤ x2)) (h1 : (x3 < x0)) (h2 : (inr x3)) (h3 : ((x4 = (0 : Int)) ∨ (x4 = (1 : Int)))) (h4 : (x0 ≤ (x1 + (1 : Int)))) (h5 : (((x4 * x0) = (0 : Int)) ∨ ((x4 * x0) = x0))) (h6 : (((0 : Int) ≤ x4) → (x3 = (x2 + (x4 * x0))))) (h7 : (((0 : Int) ≤ x5) ∧ ((x5 ≤ (9 : Int)) ∧ ((x1 + (1 : Int)) < ((2 : Int) * x0))))) : (((-(1 : Int)) ≤ x3) ∧ (x3 ≤ (x1 + (1 : Int)))) := by omega
theorem q_266 {x0 x1 x2 x3 : Int} (h0 : (x0 ≤ x1)) (h1 : (inr x1)) (h2 : (x0 ≤ (x2 + (1 : Int)))) (h3 : (((0 : Int) ≤ x3) ∧ ((x3 ≤ (9 : Int)) ∧ ((x2 + (1 : Int)) < ((2 : Int) * x0))))) : (inr (x1 - ((((2 : Int) * x0) - (2 : Int)) - x2))) := by omega
theorem q_267 {x0 x1 x2 x3 x4 x5 x6 x7 x8 x9 x10 x11 : Int} (h0 : (x0 < (0 : Int))) (h1 : (((0 : Int) ≤ x1) ∧ ((x1 ≤ x2) ∧ ((x2 ≤ x3) ∧ (x3 ≤ (65536 : Int)))))) (h2 : ((((8 : Int) * x1) ≤ x4) ∧ (x4 ≤ ((8 : Int) * x2)))) (h3 : (((0 : Int) ≤ x5) ∧ ((x5 ≤ (9 : Int)) ∧ ((x6 + (1 : Int)) < ((2 : Int) * x7))))) (h4 : (((x8 = (-(1 : Int))) ∧ (x9 = x4)) ∨ (((0 : Int) ≤ x8) ∧ ((x8 < x7) ∧ ((x9 = (x4 + x5)) ∧ (x9 ≤ ((8 : Int) * x2))))))) (h5 : (((x0 = (-(1 : Int))) ∧ (x10 = x9)) ∨ (((0 : Int) ≤ x0) ∧ ((x0 < x11) ∧ ((x10 = (x9 + (1 : Int))) ∧ (x10 ≤ ((8 : Int) * x2))))))) (h6 : (((-(2147483648 : Int)) ≤ x9) ∧ (x9 ≤ (2147483647 : Int)))) : ((((8 : Int) * x1) ≤ x10) ∧ (x10 ≤ ((8 : Int) * x2))) := by omega
theorem q_268 {x0 : Int} (h0 : ((0 : Int) < x0)) : (((-(1 : Int)) ≤ (-(1 : Int))) ∧ ((-(1 : Int)) ≤ (x0 + (1 : Int)))) := by omega
theorem q_269 {x0 x1 x2 x3 x4 x5 x6 x7 : Int} (h0 : ((0 : Int) < x0)) (h1 : (x1 ≤ (-(1 : Int)))) (h2 : (((0 : Int) ≤ x2) ∧ ((x2 ≤ x3) ∧ ((x3 ≤ x4) ∧ (x4 ≤ (65536 : Int)))))) (h3 : ((((8 : Int) * x2) ≤ x5) ∧ (x5 ≤ ((8 : Int) * x3)))) (h4 : (((0 : Int) ≤ x6) ∧ ((x6 ≤ (9 : Int)) ∧ ((x0 + (1 : Int)) < ((2 : Int) * x1))))) (h5 : (((-(2147483648 : Int)) ≤ x7) ∧ (x7 ≤ (2147483647 : Int)))) : ((((8 : Int) * x2) ≤ x7) ∧ (x7 ≤ ((8 : Int) * x3))) := by omega
theorem q_270 {x0 x1 x2 : Int} (h0 : (x0 ≤ (-(1 : Int)))) (h1 : (x0 ≤ (x1 + (1 : Int)))) (h2 : (((0 : Int) ≤ x2) ∧ ((x2 ≤ (9 : Int)) ∧ ((x1 + (1 : Int)) < ((2 : Int) * x0))))) : (((-(1 : Int)) ≤ ((-(1 : Int)) - ((((2 : Int) * x0) - (2 : Int)) - x1))) ∧ (((-(1 : Int)) - ((((2 : Int) * x0) - (2 : Int)) - x1)) ≤ (x1 + (1 : Int)))) := by omega
theorem q_271 {x0 x1 x2 : Int} (h0 : (x0 ≤ (-(1 : Int)))) (h1 : (x0 ≤ (x1 + (1 : Int)))) (h2 : (((0 : Int) ≤ x2) ∧ ((x2 ≤ (9 : Int)) ∧ ((x1 + (1 : Int)) < ((2 : Int) * x0))))) : (inr ((-(1 : Int)) - ((((2 : Int) * x0) - (2 : Int)) - x1))) := by omega
theorem q_272 {x0 x1 x2 : Int} (h0 : (x0 ≤ (0 : Int))) : ((x0 ≤ (0 : Int)) ∨ ((x0 > (0 : Int)) ∧ ((x1 + (1 : Int)) ≥ x2))) := by omega
theorem q_273 {x0 : Int} (h0 : ((0 : Int) < x0)) (h1 : (((0 : Int) ≤ x0) ∧ (x0 ≤ (512 : Int)))) : (inr (x0 + (1 : Int))) := by omega
theorem q_274 {x0 x1 x2 : Int} (h0 : ((0 : Int) < x0)) (h1 : (x1 ≤ (x2 + (1 : Int)))) : ((x0 ≤ (0 : Int)) ∨ ((x0 > (0 : Int)) ∧ ((x2 + (1 : Int)) ≥ x1))) := by omega
theorem q_275 {x0 x1 x2 : Int} (h0 : ((0 : Int) < x0)) (h1 : (((0 : Int) ≤ x0) ∧ ((x0 ≤ (9 : Int)) ∧ ((x1 + (1 : Int)) < ((2 : Int) * x2))))) : (inr (x0 + (-(1 : Int)))) := by omega
theorem q_276 {x0 : Int} : ((x0 + (-(1 : Int))) < x0) := by omega
theorem q_285 {x0 : Int} (h0 : (((0 : Int) ≤ x0) ∧ (x0 ≤ (3 : Int)))) : (((0 : Int) ≤ x0) ∧ (x0 < ((4 : Nat) : Int))) := by omega
theorem q_286 {x0 : Int} (h0 : (((0 : Int) ≤ x0) ∧ (x0 ≤ (65536 : Int)))) : (inr x0) := by omega
theorem q_290 {x0 x1 : Int} (h0 : ((0 : Int) ≤ x0)) (h1 : (x0 ≤ x1)) (h2 : (((0 : Int) ≤ x1) ∧ (x1 ≤ (65536 : Int)))) : (((0 : Int) ≤ x0) ∧ (x0 ≤ (65536 : Int))) := by omega
theorem q_291 : (inr (9 : Int)) := by omega
theorem q_294 {x0 x1 : Int} (h0 : (x0 < x1)) (h1 : ((0 : Int) ≤ x0)) (h2 : (((0 : Int) ≤ x1) ∧ (x1 ≤ (65536 : Int)))) : (((0 : Int) ≤ x0) ∧ (x0 < ((65536 : Nat) : Int))) := by omega
theorem q_296 {x0 x1 : Int} (h0 : (x0 < x1)) (h1 : ((0 : Int) ≤ x0)) (h2 : (((0 : Int) ≤ x1) ∧ (x1 ≤ (65536 : Int)))) : (inr (x0 + (1 : Int))) := by omega
theorem q_297 : (inr (255 : Int)) := by omega
theorem q_299 {x0 : Int} (h0 : (((0 : Int) ≤ x0) ∧ (x0 ≤ (255 : Int)))) : (inr x0) := by omega
theorem q_300 : (((0 : Int) ≤ (0 : Int)) ∧ ((0 : Int) ≤ (65536 : Int))) := by omega
theorem q_302 {x0 : Int} (h0 : (((0 : Int) ≤ x0) ∧ (x0 ≤ (65536 : Int)))) : (((-(2147483648 : Int)) ≤ x0) ∧ (x0 ≤ (2147483647 : Int))) := by omega
theorem q_303 {x0 : Int} : (x0 = x0) := by omega
theorem q_304 {x0 x1 : Int} (h0 : (x0 < x1)) (h1 : (x1 ≤ (16384 : Int))) (h2 : ((0 : Int) ≤ x0)) : (((0 : Int) ≤ x0) ∧ (x0 < ((16384 : Nat) : Int))) := by omega
theorem q_305 {x0 x1 : Int} (h0 : (x0 < x1)) (h1 : ((0 : Int) ≤ x0)) (h2 : (((0 : Int) ≤ x1) ∧ (x1 ≤ (65536 : Int)))) : (((0 : Int) ≤ x0) ∧ (x0 < ((131072 : Nat) : Int))) := by omega
theorem q_306 : (inr (70000 : Int)) := by omega
theorem q_307 {x0 : Int} (h0 : (((0 : Int) ≤ x0) ∧ (x0 ≤ (100000000 : Int)))) (h1 : (((-(2147483648 : Int)) ≤ x0) ∧ (x0 ≤ (2147483647 : Int)))) : (inr x0) := by omega
theorem q_308 {x0 : Int} : ((x0 + (1 : Int)) = (x0 + (1 : Int))) := by omega
theorem q_309 {x0 : Int} (h0 : (x0 < (70000 : Int))) (h1 : (((0 : Int) ≤ x0) ∧ (x0 ≤ (100000000 : Int)))) : (((0 : Int) ≤ x0) ∧ (x0 < ((70000 : Nat) : Int))) := by omega
theorem q_310 {x0 : Int} (h0 : (x0 < (70000 : Int))) (h1 : (((0 : Int) ≤ x0) ∧ (x0 ≤ (100000000 : Int)))) : (((-(2147483648 : Int)) ≤ (x0 + (1 : Int))) ∧ ((x0 + (1 : Int)) ≤ (2147483647 : Int))) := by omega
theorem q_311 {x0 x1 : Int} (h0 : (x0 < (64 : Int))) : ((((0 : Int) = (1 : Int)) ∧ ((((64 : Int) ≤ x0) ∧ (x0 < (128 : Int))) ∧ (x1 = (0 : Int)))) ∨ (((0 : Int) = (0 : Int)) ∧ ((x0 < (64 : Int)) ∨ (((128 : Int) ≤ x0) ∨ (x1 ≠ (0 : Int)))))) := by omega
theorem q_312 {x0 : Int} (h0 : (x0 < (64 : Int))) (h1 : (inr x0)) : (((0 : Int) = (1 : Int)) → (((64 : Int) ≤ x0) ∧ (x0 < (128 : Int)))) := by omega
theorem q_313 : (inr (128 : Int)) := by omega
theorem q_314 {x0 x1 : Int} (h0 : ((128 : Int) ≤ x0)) : ((((0 : Int) = (1 : Int)) ∧ ((((64 : Int) ≤ x0) ∧ (x0 < (128 : Int))) ∧ (x1 = (0 : Int)))) ∨ (((0 : Int) = (0 : Int)) ∧ ((x0 < (64 : Int)) ∨ (((128 : Int) ≤ x0) ∨ (x1 ≠ (0 : Int)))))) := by omega
theorem q_315 {x0 : Int} (h0 : ((64 : Int) ≤ x0)) (h1 : (inr x0)) : (((0 : Int) = (1 : Int)) → (((64 : Int) ≤ x0) ∧ (x0 < (128 : Int)))) := by omega
theorem q_316 {x0 : Int} (h0 : ((64 : Int) ≤ x0)) (h1 : (x0 < (128 : Int))) : (((0 : Int) = (1 : Int)) → (((64 : Int) ≤ x0) ∧ (x0 < (128 : Int)))) := by omega
theorem q_317 {x0 x1 x2 : Int} (h0 : ((64 : Int) ≤ x0)) (h1 : (x0 < (128 : Int))) (h2 : (x1 = (0 : Int))) (h3 : (x2 = x1)) : ((((1 : Int) = (1 : Int)) ∧ ((((64 : Int) ≤ x0) ∧ (x0 < (128 : Int))) ∧ (x2 = (0 : Int)))) ∨ (((1 : Int) = (0 : Int)) ∧ ((x0 < (64 : Int)) ∨ (((128 : Int) ≤ x0) ∨ (x2 ≠ (0 : Int)))))) := by omega
theorem q_318 {x0 : Int} (h0 : ((64 : Int) ≤ x0)) (h1 : (x0 < (128 : Int))) : (((1 : Int) = (1 : Int)) → (((64 : Int) ≤ x0) ∧ (x0 < (128 : Int)))) := by omega
theorem q_319 {x0 x1 : Int} (h0 : (((0 : Int) ≤ x0) ∧ (x0 ≤ (65536 : Int)))) (h1 : (((0 : Int) ≤ x1) ∧ (x1 ≤ (70000 : Int)))) : (inr (x1 + x0)) := by omega
theorem q_320 {x0 x1 x2 : Int} (h0 : (x0 < (x1 + x2))) : ((((0 : Int) = (1 : Int)) ∧ ((x1 + x2) ≤ x0)) ∨ (((0 : Int) = (0 : Int)) ∧ (x0 < (x1 + x2)))) := by omega
theorem q_321 {x0 x1 x2 : Int} (h0 : ((x0 + x1) ≤ x2)) : ((((1 : Int) = (1 : Int)) ∧ ((x0 + x1) ≤ x2)) ∨ (((1 : Int) = (0 : Int)) ∧ (x2 < (x0 + x1)))) := by omega
theorem q_322 : (((0 : Int) ≤ (31 : Int)) ∧ ((31 : Int) ≤ (64 : Int))) := by omega
theorem q_323 : (inr (31 : Int)) := by omega
theorem q_324 {x0 x1 x2 x3 : Int} (h0 : (x0 ≠ (0 : Int))) : (((x0 = (0 : Int)) ∧ ((x0 = x1) ∧ (x2 = x3))) ∨ ((x0 ≠ (0 : Int)) ∧ ((x0 = x0) ∧ (x2 = x2)))) := by omega
theorem q_325 {x0 x1 x2 x3 : Int} (h0 : (x0 = (0 : Int))) : (((x0 = (0 : Int)) ∧ ((x1 = x1) ∧ (x2 = x2))) ∨ ((x0 ≠ (0 : Int)) ∧ ((x1 = x0) ∧ (x2 = x3)))) := by omega
theorem q_326 : (inr (11 : Int)) := by omega
theorem q_327 : (((0 : Int) ≤ (89 : Int)) ∧ ((89 : Int) ≤ (255 : Int))) := by omega
theorem q_328 : (inr (89 : Int)) := by omega
theorem q_329 : (((0 : Int) ≤ (112 : Int)) ∧ ((112 : Int) ≤ (255 : Int))) := by omega
theorem q_330 : (inr (112 : Int)) := by omega
theorem q_331 : (((0 : Int) ≤ (80 : Int)) ∧ ((80 : Int) ≤ (255 : Int))) := by omega
theorem q_332 : (inr (80 : Int)) := by omega
theorem q_333 : (((0 : Int) ≤ (97 : Int)) ∧ ((97 : Int) ≤ (255 : Int))) := by omega
theorem q_334 : (inr (97 : Int)) := by omega
theorem q_335 : (((0 : Int) ≤ (78 : Int)) ∧ ((78 : Int) ≤ (255 : Int))) := by omega
theorem q_336 : (inr (78 : Int)) := by omega
theorem q_337 : (((0 : Int) ≤ (115 : Int)) ∧ ((115 : Int) ≤ (255 : Int))) := by omega
theorem q_338 : (inr (115 : Int)) := by omega
theorem q_339 {x0 x1 : Int} (h0 : (((0 : Int) ≤ (x0 + x1)) ∧ (((x0 + x1) < (262144 : Int)) ∧ (((0 : Int) ≤ x0) ∧ (x0 ≤ (262144 : Int)))))) : (((0 : Int) ≤ (x0 + x1)) ∧ ((x0 + x1) < ((262144 : Nat) : Int))) := by omega
theorem q_340 : (inrJ (0 : Int)) := by omega
theorem q_341 {x0 x1 x2 x3 : Int} (h0 : (x0 < x1)) (h1 : (((0 : Int) ≤ x2) ∧ (x2 ≤ (196608 : Int)))) (h2 : (((0 : Int) ≤ x3) ∧ (((0 : Int) ≤ x1) ∧ ((x1 ≤ (8 : Int)) ∧ ((x3 + x1) ≤ (65536 : Int)))))) (h3 : ((0 : Int) ≤ x0)) : (((0 : Int) ≤ (x2 + (x3 + x0))) ∧ (((x2 + (x3 + x0)) < (262144 : Int)) ∧ (((0 : Int) ≤ x2) ∧ (x2 ≤ (262144 : Int))))) := by omega
theorem q_342 {x0 x1 x2 : Int} (h0 : (x0 < x1)) (h1 : (((0 : Int) ≤ x2) ∧ (((0 : Int) ≤ x1) ∧ ((x1 ≤ (8 : Int)) ∧ ((x2 + x1) ≤ (65536 : Int)))))) (h2 : ((0 : Int) ≤ x0)) : (inr (x2 + x0)) := by omega
theorem q_343 {x0 x1 x2 : Int} (h0 : (x0 < x1)) (h1 : (((0 : Int) ≤ x2) ∧ (((0 : Int) ≤ x1) ∧ ((x1 ≤ (8 : Int)) ∧ ((x2 + x1) ≤ (65536 : Int)))))) (h2 : ((0 : Int) ≤ x0)) : (inr (x0 + (1 : Int))) := by omega
theorem q_344 {x0 x1 x2 : Int} (h0 : (((0 : Int) ≤ x0) ∧ ((x0 ≤ x1) ∧ ((x1 ≤ (65536 : Int)) ∧ (((0 : Int) ≤ x2) ∧ (x2 ≤ (3 : Int))))))) : ((x0 ≤ x0) ∧ (x0 ≤ x1)) := by omega
theorem q_345 : (inr (16 : Int)) := by omega
theorem q_346 {x0 x1 x2 x3 : Int} (h0 : (((0 : Int) ≤ x0) ∧ ((x0 ≤ x1) ∧ ((x1 ≤ (65536 : Int)) ∧ (((0 : Int) ≤ x2) ∧ (x2 ≤ (3 : Int))))))) (h1 : ((x0 ≤ x3) ∧ (x3 ≤ x1))) : (inr (x1 - x3)) := by omega
theorem q_347 {x0 x1 x2 x3 : Int} (h0 : ((16 : Int) ≤ (x0 - x1))) (h1 : (((0 : Int) ≤ x2) ∧ ((x2 ≤ x0) ∧ ((x0 ≤ (65536 : Int)) ∧ (((0 : Int) ≤ x3) ∧ (x3 ≤ (3 : Int))))))) (h2 : ((x2 ≤ x1) ∧ (x1 ≤ x0))) : (((0 : Int) ≤ (x1 + ((4 : Int) * x3))) ∧ (((0 : Int) ≤ (4 : Int)) ∧ (((4 : Int) ≤ (8 : Int)) ∧ (((x1 + ((4 : Int) * x3)) + (4 : Int)) ≤ (65536 : Int))))) := by omega
theorem q_348 {x0 x1 x2 x3 : Int} (h0 : ((16 : Int) ≤ (x0 - x1))) (h1 : (((0 : Int) ≤ x2) ∧ ((x2 ≤ x0) ∧ ((x0 ≤ (65536 : Int)) ∧ (((0 : Int) ≤ x3) ∧ (x3 ≤ (3 : Int))))))) (h2 : ((x2 ≤ x1) ∧ (x1 ≤ x0))) : (inr (x1 + ((4 : Int) * x3))) := by omega
theorem q_349 : (((0 : Int) ≤ (13 : Int)) ∧ ((13 : Int) ≤ (32 : Int))) := by omega
theorem q_350 : (inr (13 : Int)) := by omega
theorem q_351 {x0 x1 x2 : Int} (h0 : ((16 : Int) ≤ (x0 - x1))) (h1 : ((x2 ≤ x1) ∧ (x1 ≤ x0))) : ((x2 ≤ (x1 + (16 : Int))) ∧ ((x1 + (16 : Int)) ≤ x0)) := by omega
theorem q_352 {x0 x1 x2 x3 : Int} (h0 : ((16 : Int) ≤ (x0 - x1))) (h1 : (((0 : Int) ≤ x2) ∧ ((x2 ≤ x0) ∧ ((x0 ≤ (65536 : Int)) ∧ (((0 : Int) ≤ x3) ∧ (x3 ≤ (3 : Int))))))) (h2 : (inr x1)) : (inr (x1 + (16 : Int))) := by omega
theorem q_353 {x0 x1 : Int} : ((x0 - (x1 + (16 : Int))) < (x0 - x1)) := by omega
theorem q_354 {x0 x1 : Int} (h0 : ((16 : Int) ≤ (x0 - x1))) : ((0 : Int) < (x0 - x1)) := by omega
theorem q_355 : (((0 : Int) ≤ (0 : Int)) ∨ ((0 : Int) ≤ (8 : Int))) := by omega
theorem q_356 {x0 : Int} (h0 : (x0 < (8 : Int))) : (((x0 + (1 : Int)) ≤ (0 : Int)) ∨ ((x0 + (1 : Int)) ≤ (8 : Int))) := by omega
theorem q_357 {x0 : Int} (h0 : (x0 < (8 : Int))) (h1 : ((0 : Int) ≤ x0)) : (inr (x0 + (1 : Int))) := by omega
theorem q_358 {x0 : Int} : (((8 : Int) - (x0 + (1 : Int))) < ((8 : Int) - x0)) := by omega
theorem q_359 {x0 : Int} (h0 : (x0 < (8 : Int))) : ((0 : Int) < ((8 : Int) - x0)) := by omega
theorem q_360 {x0 x1 x2 x3 : Int} (h0 : (x0 < x1)) (h1 : (((0 : Int) ≤ x2) ∧ (x2 ≤ (196608 : Int)))) (h2 : (((0 : Int) ≤ x3) ∧ ((x3 ≤ x1) ∧ (x1 ≤ (65536 : Int))))) (h3 : (x3 ≤ x0)) : (((0 : Int) ≤ (x2 + x0)) ∧ (((x2 + x0) < (262144 : Int)) ∧ (((0 : Int) ≤ x2) ∧ (x2 ≤ (262144 : Int))))) := by omega
theorem q_361 {x0 x1 x2 : Int} (h0 : (x0 < x1)) (h1 : (((0 : Int) ≤ x2) ∧ ((x2 ≤ x1) ∧ (x1 ≤ (65536 : Int))))) (h2 : (inr x0)) : (inr (x0 + (1 : Int))) := by omega
theorem q_362 : (inr (-(2 : Int))) := by omega
theorem q_365 {x0 : Int} : (x0 = (x0 + (0 : Int))) := by omega
theorem q_366 {x0 x1 x2 x3 : Int} (h0 : (x0 ≤ x1)) (h1 : (((0 : Int) ≤ x0) ∧ (x0 ≤ (4 : Int)))) (h2 : ((x1 ≤ (0 : Int)) ∨ (x1 ≤ x0))) (h3 : (x2 = (x3 + x1))) : (x2 = (x3 + x0)) := by omega
theorem q_367 {x0 x1 x2 x3 : Int} (h0 : (x0 < x1)) (h1 : (((0 : Int) ≤ x1) ∧ (x1 ≤ (4 : Int)))) (h2 : (((0 : Int) ≤ x2) ∧ (x2 ≤ (10000000 : Int)))) (h3 : ((0 : Int) ≤ x0)) (h4 : (x3 = (x2 + x0))) (h5 : (((-(2147483648 : Int)) ≤ x3) ∧ (x3 ≤ (2147483647 : Int)))) : (((0 : Int) ≤ x3) ∧ (x3 ≤ (100000000 : Int))) := by omega
theorem q_368 {x0 x1 x2 x3 : Int} (h0 : (x0 = (x1 + x2))) (h1 : (x3 = (x0 + (1 : Int)))) : (x3 = (x1 + (x2 + (1 : Int)))) := by omega
theorem q_369 {x0 x1 : Int} (h0 : (x0 < x1)) (h1 : (((0 : Int) ≤ x1) ∧ (x1 ≤ (4 : Int)))) (h2 : ((0 : Int) ≤ x0)) : (inr (x0 + (1 : Int))) := by omega
theorem q_370 {x0 : Int} : ((x0 = x0) ∧ (x0 = x0)) := by omega
theorem q_371 {x0 x1 : Int} (h0 : (x0 < x1)) (h1 : (((0 : Int) ≤ x1) ∧ (x1 ≤ (65536 : Int)))) (h2 : ((0 : Int) ≤ x0)) : (((0 : Int) ≤ x0) ∧ (x0 < ((70000 : Nat) : Int))) := by omega
theorem q_372 {x0 x1 : Int} (h0 : (x0 < x1)) (h1 : (((0 : Int) ≤ x1) ∧ (x1 ≤ (65536 : Int)))) (h2 : ((0 : Int) ≤ x0)) : (((0 : Int) ≤ x0) ∧ (x0 < ((65536 : Nat) : Int))) := by omega
theorem q_373 {x0 x1 : Int} (h0 : (x0 < x1)) (h1 : (((0 : Int) ≤ x1) ∧ (x1 ≤ (65536 : Int)))) (h2 : ((0 : Int) ≤ x0)) : (inr (x0 + (1 : Int))) := by omega
theorem q_374 {x0 : Int} (h0 : (((0 : Int) ≤ x0) ∧ ((x0 + (3 : Int)) < (70000 : Int)))) : (((0 : Int) ≤ x0) ∧ (x0 < ((70000 : Nat) : Int))) := by omega
theorem q_375 {x0 : Int} (h0 : (((0 : Int) ≤ x0) ∧ ((x0 + (3 : Int)) < (70000 : Int)))) : (((0 : Int) ≤ (x0 + (1 : Int))) ∧ ((x0 + (1 : Int)) < ((70000 : Nat) : Int))) := by omega
theorem q_376 {x0 : Int} (h0 : (((0 : Int) ≤ x0) ∧ ((x0 + (3 : Int)) < (70000 : Int)))) : (((0 : Int) ≤ (x0 + (2 : Int))) ∧ ((x0 + (2 : Int)) < ((70000 : Nat) : Int))) := by omega
theorem q_377 {x0 : Int} (h0 : (((0 : Int) ≤ x0) ∧ ((x0 + (3 : Int)) < (70000 : Int)))) : (((0 : Int) ≤ (x0 + (3 : Int))) ∧ ((x0 + (3 : Int)) < ((70000 : Nat) : Int))) := by omega
theorem q_378 {x0 : Int} (h0 : (((0 : Int) ≤ x0) ∧ ((x0 + (3 : Int)) < (65536 : Int)))) : (((0 : Int) ≤ x0) ∧ (x0 < ((65536 : Nat) : Int))) := by omega
theorem q_379 {x0 : Int} (h0 : (((0 : Int) ≤ x0) ∧ ((x0 + (3 : Int)) < (65536 : Int)))) : (((0 : Int) ≤ (x0 + (1 : Int))) ∧ ((x0 + (1 : Int)) < ((65536 : Nat) : Int))) := by omega
theorem q_380 {x0 : Int} (h0 : (((0 : Int) ≤ x0) ∧ ((x0 + (3 : Int)) < (65536 : Int)))) : (((0 : Int) ≤ (x0 + (2 : Int))) ∧ ((x0 + (2 : Int)) < ((65536 : Nat) : Int))) := by omega
theorem q_381 {x0 : Int} (h0 : (((0 : Int) ≤ x0) ∧ ((x0 + (3 : Int)) < (65536 : Int)))) : (((0 : Int) ≤ (x0 + (3 : Int))) ∧ ((x0 + (3 : Int)) < ((65536 : Nat) : Int))) := by omega
theorem q_382 {x0 : Int} (h0 : (((-(10 : Int)) ≤ x0) ∧ (x0 ≤ (100000 : Int)))) : ((x0 - (15 : Int)) ≥ (-(25 : Int))) := by omega
theorem q_383 {x0 x1 : Int} : (((x0 - (15 : Int)) ≥ (0 : Int)) ∨ (x1 = x1)) := by omega
theorem q_384 {x0 x1 : Int} : ((x0 * (255 : Int)) = ((x0 * (255 : Int)) + ((x1 - (15 : Int)) - (x1 - (15 : Int))))) := by omega
theorem q_385 {x0 : Int} : ((x0 - (15 : Int)) ≤ (x0 - (15 : Int))) := by omega
theorem q_386 {x0 : Int} (h0 : (((-(10 : Int)) ≤ x0) ∧ (x0 ≤ (100000 : Int)))) : (inr (x0 - (15 : Int))) := by omega
theorem q_387 {x0 x1 x2 x3 : Int} (h0 : (x0 ≤ (x1 - (15 : Int)))) (h1 : ((x2 * (255 : Int)) = ((x3 * (255 : Int)) + ((x1 - (15 : Int)) - x0)))) (h2 : (x0 ≥ (-(25 : Int)))) : (((x2 * (255 : Int)) ≤ ((((x3 * (255 : Int)) + (255 : Int)) + x1) + (10 : Int))) ∧ (x3 ≤ x2)) := by omega
theorem q_388 {x0 : Int} (h0 : (x0 < (255 : Int))) (h1 : ((0 : Int) ≤ x0)) : (((0 : Int) ≤ x0) ∧ (x0 ≤ (255 : Int))) := by omega
theorem q_389 {x0 x1 x2 x3 x4 : Int} (h0 : ((0 : Int) ≤ x0)) (h1 : (x0 ≤ (x1 - (15 : Int)))) (h2 : ((x2 * (255 : Int)) = ((x3 * (255 : Int)) + ((x1 - (15 : Int)) - x0)))) (h3 : (x4 = (x2 + (1 : Int)))) : (((x4 * (255 : Int)) ≤ ((((x3 * (255 : Int)) + (255 : Int)) + x1) + (10 : Int))) ∧ (x3 ≤ x4)) := by omega
theorem q_390 : (((0 : Int) ≤ (255 : Int)) ∧ ((255 : Int) ≤ (255 : Int))) := by omega
theorem q_391 {x0 : Int} (h0 : ((255 : Int) ≤ x0)) : ((x0 + (-(255 : Int))) ≥ (-(25 : Int))) := by omega
theorem q_392 {x0 x1 x2 : Int} (h0 : ((255 : Int) ≤ x0)) : (((x0 + (-(255 : Int))) ≥ (0 : Int)) ∨ (x1 = x2)) := by omega
theorem q_393 {x0 x1 x2 x3 x4 : Int} (h0 : ((x0 * (255 : Int)) = ((x1 * (255 : Int)) + ((x2 - (15 : Int)) - x3)))) (h1 : (x4 = (x0 + (1 : Int)))) : ((x4 * (255 : Int)) = ((x1 * (255 : Int)) + ((x2 - (15 : Int)) - (x3 + (-(255 : Int)))))) := by omega
theorem q_394 {x0 x1 : Int} (h0 : (x0 ≤ (x1 - (15 : Int)))) : ((x0 + (-(255 : Int))) ≤ (x1 - (15 : Int))) := by omega
theorem q_395 {x0 : Int} (h0 : ((255 : Int) ≤ x0)) (h1 : (inr x0)) : (inr (x0 + (-(255 : Int)))) := by omega
theorem q_396 {x0 : Int} : (((x0 + (-(255 : Int))) + (1000 : Int)) < (x0 + (1000 : Int))) := by omega
theorem q_397 {x0 : Int} (h0 : ((255 : Int) ≤ x0)) : ((0 : Int) < (x0 + (1000 : Int))) := by omega
theorem q_398 {x0 : Int} (h0 : (((0 : Int) ≤ x0) ∧ (x0 ≤ (15 : Int)))) : (((-(2147483648 : Int)) ≤ x0) ∧ (x0 ≤ (2147483647 : Int))) := by omega
theorem q_399 : (inr (15 : Int)) := by omega
theorem q_400 {x0 x1 : Int} (h0 : (((0 : Int) ≤ x0) ∧ (x0 ≤ (15 : Int)))) : (((0 : Int) ≤ x0) ∧ (x0 ≤ ((15 : Int) + ((255 : Int) * (x1 - x1))))) := by omega
theorem q_401 {x0 x1 : Int} (h0 : (((0 : Int) ≤ x0) ∧ ((x0 ≤ x1) ∧ (x1 ≤ (65536 : Int))))) : (((0 : Int) ≤ x0) ∧ ((x0 ≤ x0) ∧ (x0 ≤ x1))) := by omega
theorem q_402 {x0 x1 x2 x3 : Int} (h0 : (((0 : Int) ≤ x0) ∧ ((x0 ≤ x1) ∧ (x1 ≤ (65536 : Int))))) (h1 : (((0 : Int) ≤ x2) ∧ ((x0 ≤ x2) ∧ (x2 ≤ x1)))) (h2 : (((0 : Int) ≤ x3) ∧ (x3 ≤ ((15 : Int) + ((255 : Int) * (x2 - x0)))))) : (((0 : Int) ≤ x3) ∧ (x3 ≤ (16711695 : Int))) := by omega
theorem q_403 {x0 x1 x2 : Int} (h0 : (((0 : Int) ≤ x0) ∧ ((x1 ≤ x0) ∧ (x0 ≤ x2)))) : ((x1 ≤ x0) ∧ (x0 ≤ x2)) := by omega
theorem q_404 {x0 x1 x2 : Int} (h0 : (((0 : Int) ≤ x0) ∧ ((x1 ≤ x0) ∧ (x0 ≤ x2)))) (h1 : (((-(2147483648 : Int)) ≤ x0) ∧ (x0 ≤ (2147483647 : Int)))) : (inr x0) := by omega
theorem q_405 {x0 x1 x2 : Int} (h0 : (((0 : Int) ≤ x0) ∧ ((x0 ≤ x1) ∧ (x1 ≤ (65536 : Int))))) (h1 : (((0 : Int) ≤ x2) ∧ ((x0 ≤ x2) ∧ (x2 ≤ x1)))) : (((-(2147483648 : Int)) ≤ (x2 + (1 : Int))) ∧ ((x2 + (1 : Int)) ≤ (2147483647 : Int))) := by omega
theorem q_406 {x0 x1 x2 x3 : Int} (h0 : (((0 : Int) ≤ x0) ∧ (x0 ≤ ((15 : Int) + ((255 : Int) * (x1 - x2)))))) (h1 : (((0 : Int) ≤ x3) ∧ (x3 ≤ (255 : Int)))) : (((0 : Int) ≤ (x0 + x3)) ∧ ((x0 + x3) ≤ ((15 : Int) + ((255 : Int) * ((x1 + (1 : Int)) - x2))))) := by omega
theorem q_407 {x0 x1 x2 x3 : Int} (h0 : (x0 = x1)) (h1 : (((0 : Int) ≤ x2) ∧ ((x2 ≤ x1) ∧ (x1 ≤ (65536 : Int))))) (h2 : (((0 : Int) ≤ x3) ∧ (x3 ≤ ((15 : Int) + ((255 : Int) * (x0 - x2)))))) : (((0 : Int) ≤ x3) ∧ (x3 ≤ (16711695 : Int))) := by omega
theorem q_408 {x0 x1 : Int} (h0 : (x0 = (15 : Int))) (h1 : (((0 : Int) ≤ x0) ∧ (x0 ≤ (15 : Int)))) : (((0 : Int) ≤ x0) ∧ (x0 ≤ ((15 : Int) + ((255 : Int) * (x1 - x1))))) := by omega
theorem q_409 {x0 x1 x2 x3 : Int} (h0 : (((0 : Int) ≤ x0) ∧ ((x0 < x1) ∧ (((x2 + x1) ≤ (16384 : Int)) ∧ ((0 : Int) ≤ x2))))) (h1 : ((0 : Int) ≤ x3)) (h2 : ((x3 ≤ (0 : Int)) ∨ (x3 ≤ x2))) : (((0 : Int) ≤ x3) ∧ (x3 ≤ x2)) := by omega
theorem q_410 {x0 x1 x2 x3 : Int} (h0 : (x0 < x1)) (h1 : (((0 : Int) ≤ x2) ∧ ((x2 < x3) ∧ (((x1 + x3) ≤ (16384 : Int)) ∧ ((0 : Int) ≤ x1))))) (h2 : ((0 : Int) ≤ x0)) : (((0 : Int) ≤ (x2 + x0)) ∧ ((x2 + x0) < ((16384 : Nat) : Int))) := by omega
theorem q_411 {x0 x1 x2 x3 : Int} (h0 : (x0 < x1)) (h1 : (((0 : Int) ≤ x2) ∧ ((x2 < x3) ∧ (((x1 + x3) ≤ (16384 : Int)) ∧ ((0 : Int) ≤ x1))))) (h2 : ((0 : Int) ≤ x0)) : (((0 : Int) ≤ (x3 + x0)) ∧ ((x3 + x0) < ((16384 : Nat) : Int))) := by omega
theorem q_412 {x0 x1 : Int} (h0 : (x0 < x1)) (h1 : ((0 : Int) ≤ x0)) : (((0 : Int) ≤ x0) ∧ (x0 ≤ x1)) := by omega
theorem q_413 {x0 x1 x2 x3 : Int} (h0 : (x0 < x1)) (h1 : (((0 : Int) ≤ x2) ∧ ((x2 < x3) ∧ (((x1 + x3) ≤ (16384 : Int)) ∧ ((0 : Int) ≤ x1))))) (h2 : ((0 : Int) ≤ x0)) : (inr (x0 + (1 : Int))) := by omega
theorem q_414 {x0 x1 : Int} : (((0 : Int) = (0 : Int)) ∨ (x0 < x1)) := by omega
theorem q_415 {x0 x1 : Int} : (((0 : Int) = (0 : Int)) ∨ (((4 : Int) ≤ (0 : Int)) ∧ ((0 : Int) ≤ ((x0 - (5 : Int)) - x1)))) := by omega
theorem q_416 {x0 : Int} (h0 : (((0 : Int) ≤ x0) ∧ (x0 ≤ (16384 : Int)))) : (inr (x0 - (12 : Int))) := by omega
theorem q_417 {x0 x1 : Int} (h0 : ((0 : Int) ≤ x0)) (h1 : (x0 ≤ (x1 - (12 : Int)))) (h2 : (((0 : Int) ≤ x1) ∧ (x1 ≤ (16384 : Int)))) : (inr ((x1 - (5 : Int)) - x0)) := by omega
theorem q_418 {x0 : Int} : (((x0 - (1 : Int)) ≤ (x0 - (1 : Int))) ∨ ((-(1 : Int)) ≤ (x0 - (1 : Int)))) := by omega
theorem q_419 {x0 : Int} : ((x0 - (1 : Int)) ≤ (x0 - (1 : Int))) := by omega
theorem q_420 {x0 : Int} (h0 : ((0 : Int) ≤ x0)) (h1 : (((0 : Int) ≤ x0) ∧ (x0 ≤ (16384 : Int)))) : (inr (x0 - (1 : Int))) := by omega
theorem q_421 {x0 x1 x2 x3 : Int} (h0 : ((x0 = (0 : Int)) ∨ (((4 : Int) ≤ x0) ∧ (x0 ≤ ((x1 - (5 : Int)) - x2))))) (h1 : ((x0 = (0 : Int)) ∨ (x3 < x2))) : ((0 : Int) ≤ x0) := by omega
theorem q_422 : (inr (65535 : Int)) := by omega
theorem q_423 {x0 x1 : Int} (h0 : ((0 : Int) ≤ x0)) (h1 : (((0 : Int) ≤ x1) ∧ (x1 ≤ (16384 : Int)))) (h2 : (x0 ≤ (x1 - (1 : Int)))) : (inr (x1 - x0)) := by omega
theorem q_424 {x0 x1 x2 x3 : Int} (h0 : ((65535 : Int) < (x0 - x1))) (h1 : ((0 : Int) ≤ x1)) (h2 : (((0 : Int) ≤ x0) ∧ (x0 ≤ (16384 : Int)))) (h3 : (inr x2)) (h4 : ((x2 = (0 : Int)) ∨ (x3 < x0))) : ((0 : Int) ≤ x2) := by omega
theorem q_425 {x0 x1 x2 : Int} (h0 : ((4 : Int) ≤ ((x0 - (5 : Int)) - x1))) (h1 : ((0 : Int) ≤ x2)) (h2 : (((0 : Int) ≤ x0) ∧ (x0 ≤ (16384 : Int)))) (h3 : (x2 ≤ (x1 - (1 : Int)))) : (((0 : Int) ≤ x2) ∧ ((x2 < x1) ∧ (((((x0 - (5 : Int)) - x1) + x1) ≤ (16384 : Int)) ∧ ((0 : Int) ≤ ((x0 - (5 : Int)) - x1))))) := by omega
theorem q_426 {x0 x1 : Int} (h0 : ((0 : Int) ≤ x0)) (h1 : ((4 : Int) ≤ ((x1 - (5 : Int)) - x0))) (h2 : (((0 : Int) ≤ x1) ∧ (x1 ≤ (16384 : Int)))) : (inr ((x1 - (5 : Int)) - x0)) := by omega
theorem q_427 {x0 x1 : Int} (h0 : ((0 : Int) ≤ x0)) (h1 : (((0 : Int) ≤ x1) ∧ (x1 ≤ (16384 : Int)))) (h2 : (x0 ≤ (x1 - (1 : Int)))) : (((0 : Int) ≤ x0) ∧ (x0 ≤ (16384 : Int))) := by omega
theorem q_428 {x0 x1 x2 : Int} (h0 : (x0 ≤ (x1 - (1 : Int)))) : ((x2 = (0 : Int)) ∨ (x0 < x1)) := by omega
theorem q_429 {x0 x1 : Int} (h0 : ((0 : Int) ≤ x0)) : (((x1 - (1 : Int)) ≤ (x0 + (-(1 : Int)))) ∨ ((-(1 : Int)) ≤ (x0 + (-(1 : Int))))) := by omega
theorem q_430 {x0 x1 : Int} (h0 : (x0 ≤ (x1 - (1 : Int)))) : ((x0 + (-(1 : Int))) ≤ (x1 - (1 : Int))) := by omega
theorem q_431 {x0 : Int} (h0 : ((0 : Int) ≤ x0)) (h1 : (inr x0)) : (inr (x0 + (-(1 : Int)))) := by omega
theorem q_432 {x0 : Int} : (((x0 + (-(1 : Int))) - (-(1 : Int))) < (x0 - (-(1 : Int)))) := by omega
theorem q_433 {x0 : Int} (h0 : ((0 : Int) ≤ x0)) : ((0 : Int) < (x0 - (-(1 : Int)))) := by omega
theorem q_434 {x0 x1 x2 : Int} (h0 : ((4 : Int) ≤ x0)) (h1 : (((0 : Int) ≤ x0) ∧ (x0 ≤ ((x1 - (5 : Int)) - x2)))) : ((x0 = (0 : Int)) ∨ (((4 : Int) ≤ x0) ∧ (x0 ≤ ((x1 - (5 : Int)) - x2)))) := by omega
theorem q_435 {x0 x1 x2 : Int} (h0 : ((8 : Int) ≤ x0)) (h1 : (((0 : Int) ≤ x0) ∧ (x0 ≤ ((x1 - (5 : Int)) - x2)))) : ((x0 = (0 : Int)) ∨ (((4 : Int) ≤ x0) ∧ (x0 ≤ ((x1 - (5 : Int)) - x2)))) := by omega
theorem q_436 {x0 x1 x2 : Int} (h0 : (x0 < (4 : Int))) (h1 : ((8 : Int) ≤ x0)) : ((x0 = (0 : Int)) ∨ (x1 < x2)) := by omega
theorem q_437 {x0 x1 x2 : Int} (h0 : (x0 < (4 : Int))) (h1 : ((8 : Int) ≤ x0)) : ((x0 = (0 : Int)) ∨ (((4 : Int) ≤ x0) ∧ (x0 ≤ ((x1 - (5 : Int)) - x2)))) := by omega
theorem q_438 {x0 x1 x2 x3 : Int} (h0 : (x0 < (4 : Int))) (h1 : ((8 : Int) ≤ x0)) (h2 : (x1 ≤ (x2 - (12 : Int)))) (h3 : ((0 : Int) ≤ x3)) (h4 : (((0 : Int) ≤ x2) ∧ (x2 ≤ (16384 : Int)))) : (((x1 - (1 : Int)) ≤ (x3 + (-(1 : Int)))) ∨ ((-(1 : Int)) ≤ (x3 + (-(1 : Int))))) := by omega
theorem q_439 {x0 : Int} (h0 : (((0 : Int) ≤ x0) ∧ (x0 < (16384 : Int)))) : (inr (x0 + (1 : Int))) := by omega
theorem q_440 : (((0 : Int) ≤ (2 : Int)) ∧ ((2 : Int) ≤ (2 : Int))) := by omega
theorem q_441 {x0 : Int} (h0 : (((0 : Int) ≤ x0) ∧ (x0 < (16384 : Int)))) : (((0 : Int) ≤ x0) ∧ (x0 ≤ (16384 : Int))) := by omega
theorem q_442 {x0 : Int} (h0 : (((0 : Int) ≤ x0) ∧ (x0 < (16384 : Int)))) : (((0 : Int) ≤ (x0 + (1 : Int))) ∧ ((x0 + (1 : Int)) ≤ (16384 : Int))) := by omega
theorem q_443 {x0 : Int} (h0 : (x0 < (3 : Int))) (h1 : (((0 : Int) ≤ x0) ∧ (x0 ≤ (3 : Int)))) : (((0 : Int) ≤ x0) ∧ (x0 ≤ (2 : Int))) := by omega
theorem q_444 {x0 x1 : Int} (h0 : (((0 : Int) ≤ x0) ∧ (((0 : Int) ≤ x1) ∧ ((x1 ≤ (8 : Int)) ∧ ((x0 + x1) ≤ (65536 : Int)))))) : (inr (x1 - (1 : Int))) := by omega
theorem q_445 {x0 x1 x2 : Int} (h0 : ((0 : Int) ≤ x0)) (h1 : (((0 : Int) ≤ x1) ∧ (((0 : Int) ≤ x2) ∧ ((x2 ≤ (8 : Int)) ∧ ((x1 + x2) ≤ (65536 : Int)))))) (h2 : (x0 ≤ (x2 - (1 : Int)))) : (((0 : Int) ≤ (x1 + x0)) ∧ ((x1 + x0) < ((65536 : Nat) : Int))) := by omega
theorem q_446 {x0 x1 : Int} : (x0 = (x0 + (x1 - x1))) := by omega
theorem q_447 {x0 x1 x2 x3 x4 : Int} (h0 : (x0 ≤ x1)) (h1 : (((0 : Int) ≤ x2) ∧ ((x2 ≤ x0) ∧ ((x0 ≤ (65536 : Int)) ∧ ((x3 + (x0 - x2)) ≤ (16384 : Int)))))) (h2 : ((x1 ≤ x2) ∨ (x1 ≤ x0))) (h3 : (x4 = (x3 + (x1 - x2)))) : (x4 = (x3 + (x0 - x2))) := by omega
theorem q_448 {x0 x1 x2 x3 : Int} (h0 : (x0 < x1)) (h1 : (((0 : Int) ≤ x2) ∧ ((x2 ≤ x1) ∧ ((x1 ≤ (65536 : Int)) ∧ ((x3 + (x1 - x2)) ≤ (16384 : Int)))))) (h2 : (x2 ≤ x0)) : (((0 : Int) ≤ x0) ∧ (x0 < ((65536 : Nat) : Int))) := by omega
theorem q_449 {x0 x1 x2 x3 x4 : Int} (h0 : (x0 < x1)) (h1 : (((0 : Int) ≤ x2) ∧ (x2 ≤ (16384 : Int)))) (h2 : (((0 : Int) ≤ x3) ∧ ((x3 ≤ x1) ∧ ((x1 ≤ (65536 : Int)) ∧ ((x2 + (x1 - x3)) ≤ (16384 : Int)))))) (h3 : (x3 ≤ x0)) (h4 : (x4 = (x2 + (x0 - x3)))) : (((0 : Int) ≤ x4) ∧ (x4 < ((16384 : Nat) : Int))) := by omega
theorem q_450 {x0 x1 x2 x3 x4 : Int} (h0 : (x0 < x1)) (h1 : (((0 : Int) ≤ x2) ∧ ((x2 ≤ x1) ∧ ((x1 ≤ (65536 : Int)) ∧ ((x3 + (x1 - x2)) ≤ (16384 : Int)))))) (h2 : (x4 = (x3 + (x0 - x2)))) (h3 : (((-(2147483648 : Int)) ≤ x4) ∧ (x4 ≤ (2147483647 : Int)))) : (((-(2147483648 : Int)) ≤ (x4 + (1 : Int))) ∧ ((x4 + (1 : Int)) ≤ (2147483647 : Int))) := by omega
theorem q_451 {x0 x1 x2 x3 : Int} (h0 : (x0 = (x1 + (x2 - x3)))) : ((x0 + (1 : Int)) = (x1 + ((x2 + (1 : Int)) - x3))) := by omega
theorem q_452 {x0 x1 x2 x3 : Int} (h0 : (x0 < x1)) (h1 : (((0 : Int) ≤ x2) ∧ ((x2 ≤ x1) ∧ ((x1 ≤ (65536 : Int)) ∧ ((x3 + (x1 - x2)) ≤ (16384 : Int)))))) (h2 : (inr x0)) : (inr (x0 + (1 : Int))) := by omega
theorem q_453 {x0 : Int} (h0 : (((0 : Int) ≤ x0) ∧ (x0 ≤ (5000000 : Int)))) (h1 : (((-(2147483648 : Int)) ≤ x0) ∧ (x0 ≤ (2147483647 : Int)))) : (((0 : Int) ≤ x0) ∧ (x0 ≤ (100000000 : Int))) := by omega
theorem q_454 {x0 x1 : Int} (h0 : (((0 : Int) ≤ x0) ∧ (x0 ≤ (5000000 : Int)))) (h1 : (x1 = (x0 + (1 : Int)))) (h2 : (((-(2147483648 : Int)) ≤ x1) ∧ (x1 ≤ (2147483647 : Int)))) : (((0 : Int) ≤ x1) ∧ (x1 ≤ (10000000 : Int))) := by omega
theorem q_455 {x0 x1 : Int} (h0 : (((0 : Int) ≤ x0) ∧ ((x0 ≤ x1) ∧ (x1 ≤ (16384 : Int))))) : (((-(10 : Int)) ≤ (x1 - x0)) ∧ ((x1 - x0) ≤ (100000 : Int))) := by omega
theorem q_456 {x0 x1 : Int} (h0 : (((0 : Int) ≤ x0) ∧ ((x0 ≤ x1) ∧ (x1 ≤ (16384 : Int))))) : (inr (x1 - x0)) := by omega
theorem q_457 : ((inr (256 : Int)) ∧ ((0 : Int) < (256 : Int))) := by omega
theorem q_458 {x0 x1 : Int} (h0 : (inr x0)) (h1 : ((x1 ≤ (16384 : Int)) ∧ (((0 : Int) ≤ x0) ∧ (x0 ≤ (16384 : Int))))) : ((inr x0) ∧ ((0 : Int) ≤ x0)) := by omega
theorem q_459 {x0 : Int} : ((x0 % (256 : Int)) = (x0 % (256 : Int))) := by omega
theorem q_460 {x0 : Int} : (((0 : Int) ≤ (x0 % (256 : Int))) ∧ ((x0 % (256 : Int)) ≤ (255 : Int))) := by omega
theorem q_461 {x0 : Int} : (inr (x0 % (256 : Int))) := by omega
theorem q_462 {x0 : Int} : ((x0 / (256 : Int)) = (x0 / (256 : Int))) := by omega
theorem q_463 {x0 x1 : Int} (h0 : ((x0 ≤ (16384 : Int)) ∧ (((0 : Int) ≤ x1) ∧ (x1 ≤ (16384 : Int))))) : (((0 : Int) ≤ (x1 / (256 : Int))) ∧ ((x1 / (256 : Int)) ≤ (255 : Int))) := by omega
theorem q_464 {x0 x1 : Int} (h0 : ((x0 ≤ (16384 : Int)) ∧ (((0 : Int) ≤ x1) ∧ (x1 ≤ (16384 : Int))))) : (inr (x1 / (256 : Int))) := by omega
theorem q_465 {x0 x1 x2 : Int} (h0 : ((x0 = (0 : Int)) ∨ ((4 : Int) ≤ x0))) (h1 : ((x0 ≤ (16384 : Int)) ∧ (((0 : Int) ≤ x1) ∧ (x1 ≤ (16384 : Int))))) (h2 : (((x0 ≠ (0 : Int)) ∧ (((x0 - (4 : Int)) ≤ (15 : Int)) ∧ (x2 = (x0 - (4 : Int))))) ∨ (((x0 ≠ (0 : Int)) ∧ (((x0 - (4 : Int)) > (15 : Int)) ∧ (x2 = (15 : Int)))) ∨ ((x0 = (0 : Int)) ∧ (x2 = (0 : Int)))))) : (((-(10 : Int)) ≤ (x0 - (4 : Int))) ∧ ((x0 - (4 : Int)) ≤ (100000 : Int))) := by omega
theorem q_466 {x0 x1 x2 : Int} (h0 : ((x0 = (0 : Int)) ∨ ((4 : Int) ≤ x0))) (h1 : ((x0 ≤ (16384 : Int)) ∧ (((0 : Int) ≤ x1) ∧ (x1 ≤ (16384 : Int))))) (h2 : (((x0 ≠ (0 : Int)) ∧ (((x0 - (4 : Int)) ≤ (15 : Int)) ∧ (x2 = (x0 - (4 : Int))))) ∨ (((x0 ≠ (0 : Int)) ∧ (((x0 - (4 : Int)) > (15 : Int)) ∧ (x2 = (15 : Int)))) ∨ ((x0 = (0 : Int)) ∧ (x2 = (0 : Int)))))) : (inr (x0 - (4 : Int))) := by omega
theorem q_467 {x0 x1 x2 x3 x4 x5 x6 : Int} (h0 : (((0 : Int) ≤ x0) ∧ ((x0 ≤ x1) ∧ (x1 ≤ (16384 : Int))))) (h1 : (x0 ≤ x2)) (h2 : ((x2 ≤ x0) ∨ (x2 ≤ x1))) (h3 : (x3 = (x4 + (x2 - x0)))) (h4 : (((x4 * (255 : Int)) ≤ ((((x5 * (255 : Int)) + (255 : Int)) + (x1 - x0)) + (10 : Int))) ∧ (x5 ≤ x4))) (h5 : (x5 = (x6 + (1 : Int)))) : ((x6 ≤ x3) ∧ (x3 ≤ ((x6 + (x1 - x0)) + (140 : Int)))) := by omega
theorem q_468 {x0 x1 x2 : Int} (h0 : (x0 < x1)) (h1 : (((0 : Int) ≤ x2) ∧ ((x2 ≤ x1) ∧ (x1 ≤ (16384 : Int))))) (h2 : (x2 ≤ x0)) : (((0 : Int) ≤ x0) ∧ (x0 < ((16384 : Nat) : Int))) := by omega
theorem q_469 {x0 x1 x2 x3 x4 : Int} (h0 : (x0 = (x1 + (x2 - x3)))) (h1 : (x4 = (x0 + (1 : Int)))) : (x4 = (x1 + ((x2 + (1 : Int)) - x3))) := by omega
theorem q_470 {x0 x1 x2 : Int} (h0 : (x0 < x1)) (h1 : (((0 : Int) ≤ x2) ∧ ((x2 ≤ x1) ∧ (x1 ≤ (16384 : Int))))) (h2 : (inr x0)) : (inr (x0 + (1 : Int))) := by omega
theorem q_471 {x0 x1 : Int} (h0 : ((x0 = (0 : Int)) ∨ ((4 : Int) ≤ x0))) (h1 : ((x0 ≤ (16384 : Int)) ∧ (((0 : Int) ≤ x1) ∧ (x1 ≤ (16384 : Int))))) : (inr (x0 - (4 : Int))) := by omega
theorem q_472 {x0 : Int} (h0 : (x0 ≠ (0 : Int))) (h1 : ((x0 - (4 : Int)) ≤ (15 : Int))) : (((x0 ≠ (0 : Int)) ∧ (((x0 - (4 : Int)) ≤ (15 : Int)) ∧ ((x0 - (4 : Int)) = (x0 - (4 : Int))))) ∨ (((x0 ≠ (0 : Int)) ∧ (((x0 - (4 : Int)) > (15 : Int)) ∧ ((x0 - (4 : Int)) = (15 : Int)))) ∨ ((x0 = (0 : Int)) ∧ ((x0 - (4 : Int)) = (0 : Int))))) := by omega
theorem q_473 {x0 : Int} (h0 : ((x0 - (4 : Int)) ≤ (15 : Int))) (h1 : ((x0 = (0 : Int)) ∨ ((4 : Int) ≤ x0))) : (inr (x0 - (4 : Int))) := by omega
theorem q_474 {x0 : Int} (h0 : (x0 ≠ (0 : Int))) (h1 : ((15 : Int) < (x0 - (4 : Int)))) : (((x0 ≠ (0 : Int)) ∧ (((x0 - (4 : Int)) ≤ (15 : Int)) ∧ ((15 : Int) = (x0 - (4 : Int))))) ∨ (((x0 ≠ (0 : Int)) ∧ (((x0 - (4 : Int)) > (15 : Int)) ∧ ((15 : Int) = (15 : Int)))) ∨ ((x0 = (0 : Int)) ∧ ((15 : Int) = (0 : Int))))) := by omega
theorem q_475 {x0 : Int} (h0 : (x0 = (0 : Int))) : (((x0 ≠ (0 : Int)) ∧ (((x0 - (4 : Int)) ≤ (15 : Int)) ∧ ((0 : Int) = (x0 - (4 : Int))))) ∨ (((x0 ≠ (0 : Int)) ∧ (((x0 - (4 : Int)) > (15 : Int)) ∧ ((0 : Int) = (15 : Int)))) ∨ ((x0 = (0 : Int)) ∧ ((0 : Int) = (0 : Int))))) := by omega
theorem q_476 {x0 x1 : Int} (h0 : ((x0 - x1) ≤ (15 : Int))) : ((((x0 - x1) ≤ (15 : Int)) ∧ ((x0 - x1) = (x0 - x1))) ∨ (((x0 - x1) > (15 : Int)) ∧ ((x0 - x1) = (15 : Int)))) := by omega
theorem q_477 {x0 x1 : Int} (h0 : ((x0 - x1) ≤ (15 : Int))) (h1 : (((0 : Int) ≤ x1) ∧ ((x1 ≤ x0) ∧ (x0 ≤ (16384 : Int))))) : (inr (x0 - x1)) := by omega
theorem q_478 {x0 x1 : Int} (h0 : ((15 : Int) < (x0 - x1))) : ((((x0 - x1) ≤ (15 : Int)) ∧ ((15 : Int) = (x0 - x1))) ∨ (((x0 - x1) > (15 : Int)) ∧ ((15 : Int) = (15 : Int)))) := by omega
theorem q_479 {x0 : Int} : (((0 : Int) ≤ (0 : Int)) ∧ ((0 : Int) ≤ ((141 : Int) * (x0 - x0)))) := by omega
theorem q_480 {x0 x1 : Int} (h0 : (((0 : Int) ≤ x0) ∧ (x0 ≤ x1))) : ((x0 ≤ x0) ∧ ((x0 ≤ x0) ∧ (x0 ≤ x1))) := by omega
theorem q_481 {x0 : Int} (h0 : (((0 : Int) ≤ x0) ∧ (x0 ≤ (16384 : Int)))) : (inr x0) := by omega
theorem q_482 : (((0 : Int) ≤ (16384 : Int)) ∧ (((0 : Int) ≤ (0 : Int)) ∧ ((0 : Int) ≤ (16384 : Int)))) := by omega
theorem q_483 : (((0 : Int) = (0 : Int)) ∨ ((4 : Int) ≤ (0 : Int))) := by omega
theorem q_484 {x0 x1 x2 x3 x4 : Int} (h0 : (((0 : Int) ≤ x0) ∧ (x0 ≤ (16384 : Int)))) (h1 : (((0 : Int) ≤ x1) ∧ (x1 ≤ x0))) (h2 : ((x1 ≤ x2) ∧ ((x2 ≤ x3) ∧ (x3 ≤ x0)))) (h3 : (((0 : Int) ≤ x4) ∧ (x4 ≤ ((141 : Int) * (x2 - x1))))) : (((0 : Int) ≤ x2) ∧ ((x2 ≤ x0) ∧ (x0 ≤ (16384 : Int)))) := by omega
theorem q_485 {x0 x1 x2 x3 x4 : Int} (h0 : (x0 < x1)) (h1 : (((0 : Int) ≤ x1) ∧ (x1 ≤ (16384 : Int)))) (h2 : (((0 : Int) ≤ x2) ∧ (x2 ≤ x1))) (h3 : ((x2 ≤ x3) ∧ ((x3 ≤ x0) ∧ (x0 ≤ x1)))) (h4 : (((0 : Int) ≤ x4) ∧ (x4 ≤ ((141 : Int) * (x3 - x2))))) : (((0 : Int) ≤ x0) ∧ (x0 < (16384 : Int))) := by omega
theorem q_486 {x0 x1 x2 x3 x4 : Int} (h0 : (x0 < x1)) (h1 : (((0 : Int) ≤ x1) ∧ (x1 ≤ (16384 : Int)))) (h2 : (((0 : Int) ≤ x2) ∧ (x2 ≤ x1))) (h3 : ((x2 ≤ x3) ∧ ((x3 ≤ x0) ∧ (x0 ≤ x1)))) (h4 : (((0 : Int) ≤ x4) ∧ (x4 ≤ ((141 : Int) * (x3 - x2))))) : (((0 : Int) ≤ x3) ∧ ((x3 ≤ x0) ∧ (x0 ≤ (16384 : Int)))) := by omega
theorem q_487 {x0 x1 x2 x3 x4 x5 : Int} (h0 : (((0 : Int) ≤ x0) ∧ (x0 ≤ x1))) (h1 : (inr x2)) (h2 : ((x0 ≤ x3) ∧ ((x3 ≤ x2) ∧ (x2 ≤ x1)))) (h3 : (((0 : Int) ≤ x4) ∧ (x4 ≤ ((141 : Int) * (x3 - x0))))) (h4 : (((0 : Int) ≤ x5) ∧ (x5 ≤ (16384 : Int)))) : (inr (x2 - x5)) := by omega
theorem q_488 {x0 x1 x2 x3 x4 x5 x6 : Int} (h0 : (x0 < x1)) (h1 : ((x2 ≤ x3) ∧ ((x3 ≤ x0) ∧ (x0 ≤ x1)))) (h2 : (((0 : Int) ≤ x4) ∧ (x4 ≤ ((141 : Int) * (x3 - x2))))) (h3 : ((0 : Int) ≤ x5)) (h4 : ((x5 = (0 : Int)) ∨ (((4 : Int) ≤ x5) ∧ (x5 ≤ ((x1 - (5 : Int)) - x0))))) (h5 : ((x5 = (0 : Int)) ∨ (x6 < x0))) : ((x2 ≤ (x0 + x5)) ∧ (((x0 + x5) ≤ (x0 + x5)) ∧ ((x0 + x5) ≤ x1))) := by omega
theorem q_489 {x0 x1 x2 x3 : Int} (h0 : (((0 : Int) ≤ x0) ∧ (x0 ≤ (16384 : Int)))) (h1 : (inr x1)) (h2 : ((0 : Int) ≤ x2)) (h3 : ((x2 = (0 : Int)) ∨ (((4 : Int) ≤ x2) ∧ (x2 ≤ ((x0 - (5 : Int)) - x1))))) (h4 : ((x2 = (0 : Int)) ∨ (x3 < x1))) : (inr (x1 + x2)) := by omega
theorem q_490 {x0 x1 x2 x3 : Int} (h0 : (x0 < x1)) (h1 : ((x2 ≤ x3) ∧ ((x3 ≤ x0) ∧ (x0 ≤ x1)))) : ((x2 ≤ x3) ∧ ((x3 ≤ (x0 + (1 : Int))) ∧ ((x0 + (1 : Int)) ≤ x1))) := by omega
theorem q_491 {x0 x1 : Int} (h0 : (x0 < x1)) (h1 : (((0 : Int) ≤ x1) ∧ (x1 ≤ (16384 : Int)))) (h2 : (inr x0)) : (inr (x0 + (1 : Int))) := by omega
theorem q_492 {x0 : Int} (h0 : (x0 ≤ (65536 : Int))) (h1 : (((0 : Int) ≤ x0) ∧ (x0 ≤ (100000000 : Int)))) : (((0 : Int) ≤ x0) ∧ (x0 ≤ (65536 : Int))) := by omega
theorem q_493 {x0 : Int} (h0 : (x0 ≤ (65536 : Int))) : (((x0 = (-(1 : Int))) ∧ ((65536 : Int) < x0)) ∨ ((x0 = x0) ∧ ((x0 ≤ (65536 : Int)) ∧ (x0 = x0)))) := by omega
theorem q_494 {x0 x1 : Int} (h0 : (x0 ≤ (65536 : Int))) (h1 : (x1 < x0)) (h2 : ((0 : Int) ≤ x1)) : (((0 : Int) ≤ x1) ∧ (x1 < ((70000 : Nat) : Int))) := by omega
theorem q_495 {x0 x1 : Int} (h0 : (x0 ≤ (65536 : Int))) (h1 : (x1 < x0)) (h2 : ((0 : Int) ≤ x1)) : (((0 : Int) ≤ x1) ∧ (x1 < ((65536 : Nat) : Int))) := by omega
theorem q_496 {x0 x1 : Int} (h0 : (x0 ≤ (65536 : Int))) (h1 : (x1 < x0)) (h2 : ((0 : Int) ≤ x1)) : (inr (x1 + (1 : Int))) := by omega
theorem q_497 {x0 x1 : Int} (h0 : ((65536 : Int) < x0)) : ((((-(1 : Int)) = (-(1 : Int))) ∧ ((65536 : Int) < x0)) ∨ (((-(1 : Int)) = x0) ∧ ((x0 ≤ (65536 : Int)) ∧ (x1 = x0)))) := by omega
theorem q_498 {x0 x1 : Int} (h0 : ((x0 + x1) ≤ (16384 : Int))) (h1 : (((0 : Int) ≤ x1) ∧ (x1 ≤ (65536 : Int)))) : (x0 ≤ (16384 : Int)) := by omega
theorem q_499 {x0 x1 x2 : Int} (h0 : ((x0 + x1) ≤ (16384 : Int))) (h1 : (x2 = x0)) (h2 : (((0 : Int) ≤ x1) ∧ (x1 ≤ (65536 : Int)))) : (((0 : Int) ≤ (0 : Int)) ∧ (((0 : Int) ≤ x1) ∧ ((x1 ≤ (65536 : Int)) ∧ ((x2 + (x1 - (0 : Int))) ≤ (16384 : Int))))) := by omega
theorem q_500 {x0 x1 x2 : Int} (h0 : ((x0 + x1) ≤ (16384 : Int))) (h1 : (x2 = x0)) (h2 : (((0 : Int) ≤ x1) ∧ (x1 ≤ (65536 : Int)))) (h3 : (((0 : Int) ≤ x0) ∧ (x0 ≤ (65536 : Int)))) : (((0 : Int) ≤ x2) ∧ (x2 ≤ (16384 : Int))) := by omega
theorem q_501 {x0 x1 x2 x3 : Int} (h0 : (x0 = (x1 + (x2 - (0 : Int))))) (h1 : (x1 = x3)) (h2 : (((0 : Int) ≤ x2) ∧ (x2 ≤ (65536 : Int)))) (h3 : (((0 : Int) ≤ x3) ∧ (x3 ≤ (65536 : Int)))) : (((0 : Int) ≤ x3) ∧ (x3 ≤ x0)) := by omega
theorem q_502 {x0 x1 x2 x3 : Int} (h0 : ((x0 + x1) ≤ (16384 : Int))) (h1 : (x2 = (x3 + (x1 - (0 : Int))))) (h2 : (x3 = x0)) (h3 : (((0 : Int) ≤ x1) ∧ (x1 ≤ (65536 : Int)))) (h4 : (((0 : Int) ≤ x0) ∧ (x0 ≤ (65536 : Int)))) : (((0 : Int) ≤ x2) ∧ (x2 ≤ (16384 : Int))) := by omega
theorem q_503 {x0 : Int} (h0 : (((0 : Int) ≤ x0) ∧ (x0 ≤ (3000000 : Int)))) (h1 : (((-(2147483648 : Int)) ≤ x0) ∧ (x0 ≤ (2147483647 : Int)))) : (((0 : Int) ≤ x0) ∧ (x0 ≤ (100000000 : Int))) := by omega
theorem q_504 {x0 : Int} (h0 : (((0 : Int) ≤ x0) ∧ (x0 ≤ (3000000 : Int)))) (h1 : (((-(2147483648 : Int)) ≤ x0) ∧ (x0 ≤ (2147483647 : Int)))) : (inr x0) := by omega
theorem q_505 {x0 x1 x2 x3 : Int} (h0 : (x0 ≤ x1)) (h1 : (((0 : Int) ≤ x0) ∧ (x0 ≤ (8 : Int)))) (h2 : ((x1 ≤ (0 : Int)) ∨ (x1 ≤ x0))) (h3 : (x2 = (x3 + x1))) : (x2 = (x3 + x0)) := by omega
theorem q_506 {x0 x1 x2 x3 : Int} (h0 : (x0 < x1)) (h1 : (((0 : Int) ≤ x1) ∧ (x1 ≤ (8 : Int)))) (h2 : (((0 : Int) ≤ x2) ∧ (x2 ≤ (10000000 : Int)))) (h3 : ((0 : Int) ≤ x0)) (h4 : (x3 = (x2 + x0))) (h5 : (((-(2147483648 : Int)) ≤ x3) ∧ (x3 ≤ (2147483647 : Int)))) : (((0 : Int) ≤ x3) ∧ (x3 ≤ (100000000 : Int))) := by omega
theorem q_507 {x0 x1 : Int} (h0 : (x0 < x1)) (h1 : (((0 : Int) ≤ x1) ∧ (x1 ≤ (8 : Int)))) (h2 : ((0 : Int) ≤ x0)) : (inr (x0 + (1 : Int))) := by omega
theorem q_508 {x0 x1 x2 : Int} (h0 : (((0 : Int) ≤ x0) ∧ ((x0 ≤ x1) ∧ ((x1 ≤ (65536 : Int)) ∧ (((0 : Int) ≤ x2) ∧ (x2 ≤ (65536 : Int))))))) : (((-(2147483648 : Int)) ≤ x0) ∧ (x0 ≤ (2147483647 : Int))) := by omega
theorem q_509 {x0 x1 x2 x3 : Int} (h0 : (((0 : Int) ≤ x0) ∧ ((x0 ≤ x1) ∧ ((x1 ≤ (65536 : Int)) ∧ (((0 : Int) ≤ x2) ∧ (x2 ≤ (65536 : Int))))))) : ((x3 ≤ x3) ∧ (x3 ≤ (x3 + x2))) := by omega
theorem q_510 {x0 x1 x2 : Int} (h0 : (((0 : Int) ≤ x0) ∧ ((x0 ≤ x1) ∧ ((x1 ≤ (65536 : Int)) ∧ (((0 : Int) ≤ x2) ∧ (x2 ≤ (65536 : Int))))))) : (((0 : Int) ≤ x0) ∧ (x0 ≤ x1)) := by omega
theorem q_511 {x0 x1 x2 x3 : Int} (h0 : (((0 : Int) ≤ x0) ∧ ((x0 ≤ x1) ∧ ((x1 ≤ (65536 : Int)) ∧ (((0 : Int) ≤ x2) ∧ (x2 ≤ (65536 : Int))))))) (h1 : (((0 : Int) ≤ x3) ∧ (x3 ≤ x1))) : (((-(2147483648 : Int)) ≤ x1) ∧ (x1 ≤ (2147483647 : Int))) := by omega
theorem q_512 {x0 x1 : Int} (h0 : (((0 : Int) ≤ x0) ∧ (x0 ≤ x1))) (h1 : (((-(2147483648 : Int)) ≤ x0) ∧ (x0 ≤ (2147483647 : Int)))) : (inr x0) := by omega
theorem q_513 {x0 x1 x2 x3 : Int} (h0 : (((0 : Int) ≤ x0) ∧ ((x0 ≤ x1) ∧ ((x1 ≤ (65536 : Int)) ∧ (((0 : Int) ≤ x2) ∧ (x2 ≤ (65536 : Int))))))) (h1 : (((0 : Int) ≤ x3) ∧ (x3 ≤ x1))) : (((-(2147483648 : Int)) ≤ (x3 + (1 : Int))) ∧ ((x3 + (1 : Int)) ≤ (2147483647 : Int))) := by omega
theorem q_514 : ((inr (16 : Int)) ∧ ((0 : Int) < (16 : Int))) := by omega
theorem q_515 {x0 : Int} (h0 : (((0 : Int) ≤ x0) ∧ (x0 ≤ (255 : Int)))) : ((inr x0) ∧ ((0 : Int) ≤ x0)) := by omega
theorem q_516 {x0 : Int} (h0 : (((0 : Int) ≤ x0) ∧ (x0 ≤ (255 : Int)))) : (((0 : Int) ≤ (x0 / (16 : Int))) ∧ ((x0 / (16 : Int)) ≤ (15 : Int))) := by omega
theorem q_517 {x0 : Int} (h0 : (((0 : Int) ≤ x0) ∧ (x0 ≤ (255 : Int)))) : (inr (x0 / (16 : Int))) := by omega
theorem q_518 {x0 x1 : Int} (h0 : (((0 : Int) ≤ x0) ∧ (x0 ≤ (16711695 : Int)))) : ((x0 = (x0 - (x1 - x1))) ∧ ((0 : Int) ≤ x0)) := by omega
theorem q_519 {x0 x1 x2 : Int} (h0 : (((x0 + (1 : Int)) ≤ x1) ∧ (x1 ≤ x2))) : ((x1 ≤ x1) ∧ (x1 ≤ x2)) := by omega
theorem q_520 {x0 : Int} : ((x0 ≤ x0) ∨ ((0 : Int) ≤ x0)) := by omega
theorem q_521 {x0 : Int} (h0 : (((0 : Int) ≤ x0) ∧ (x0 ≤ (16711695 : Int)))) (h1 : (((-(2147483648 : Int)) ≤ x0) ∧ (x0 ≤ (2147483647 : Int)))) : (inr x0) := by omega
theorem q_522 {x0 x1 x2 x3 x4 : Int} (h0 : (((0 : Int) ≤ x0) ∧ ((x0 ≤ x1) ∧ ((x1 ≤ (65536 : Int)) ∧ (((0 : Int) ≤ x2) ∧ (x2 ≤ (65536 : Int))))))) (h1 : ((x3 ≤ x4) ∧ (x4 ≤ x1))) (h2 : (((-(2147483648 : Int)) ≤ x4) ∧ (x4 ≤ (2147483647 : Int)))) : (inr (x4 + (2 : Int))) := by omega
theorem q_523 {x0 x1 x2 x3 x4 x5 : Int} (h0 : ((x0 + (2 : Int)) ≤ x1)) (h1 : (((0 : Int) ≤ x2) ∧ ((x2 ≤ x1) ∧ ((x1 ≤ (65536 : Int)) ∧ (((0 : Int) ≤ x3) ∧ (x3 ≤ (65536 : Int))))))) (h2 : (((0 : Int) ≤ x4) ∧ (x4 ≤ x1))) (h3 : ((x5 ≤ x0) ∧ (x0 ≤ x1))) (h4 : (((x4 + (1 : Int)) ≤ x5) ∧ (x5 ≤ x1))) : (((0 : Int) ≤ x0) ∧ (x0 < ((65536 : Nat) : Int))) := by omega
theorem q_524 {x0 x1 x2 x3 x4 x5 : Int} (h0 : ((x0 + (2 : Int)) ≤ x1)) (h1 : (((0 : Int) ≤ x2) ∧ ((x2 ≤ x1) ∧ ((x1 ≤ (65536 : Int)) ∧ (((0 : Int) ≤ x3) ∧ (x3 ≤ (65536 : Int))))))) (h2 : (((0 : Int) ≤ x4) ∧ (x4 ≤ x1))) (h3 : ((x5 ≤ x0) ∧ (x0 ≤ x1))) (h4 : (((x4 + (1 : Int)) ≤ x5) ∧ (x5 ≤ x1))) : (((0 : Int) ≤ (x0 + (1 : Int))) ∧ ((x0 + (1 : Int)) < ((65536 : Nat) : Int))) := by omega
theorem q_525 {x0 x1 x2 x3 : Int} (h0 : (x0 = x1)) (h1 : (x2 = x3)) : ((x1 + ((256 : Int) * x3)) = (x0 + ((256 : Int) * x2))) := by omega
theorem q_526 {x0 x1 x2 x3 : Int} (h0 : ((x0 + (2 : Int)) ≤ x1)) (h1 : (((0 : Int) ≤ x2) ∧ ((x2 ≤ x1) ∧ ((x1 ≤ (65536 : Int)) ∧ (((0 : Int) ≤ x3) ∧ (x3 ≤ (65536 : Int))))))) (h2 : (((-(2147483648 : Int)) ≤ x0) ∧ (x0 ≤ (2147483647 : Int)))) : (((-(2147483648 : Int)) ≤ (x0 + (2 : Int))) ∧ ((x0 + (2 : Int)) ≤ (2147483647 : Int))) := by omega
theorem q_527 {x0 x1 : Int} (h0 : (((0 : Int) ≤ x0) ∧ (x0 ≤ (255 : Int)))) (h1 : (((0 : Int) ≤ x1) ∧ (x1 ≤ (255 : Int)))) : (inr (x0 + ((256 : Int) * x1))) := by omega
theorem q_528 : (((0 : Int) ≤ (2 : Int)) ∧ ((2 : Int) ≤ (3 : Int))) := by omega
theorem q_529 {x0 x1 x2 x3 x4 x5 : Int} (h0 : ((x0 + (2 : Int)) ≤ x1)) (h1 : (((0 : Int) ≤ x2) ∧ ((x2 ≤ x1) ∧ ((x1 ≤ (65536 : Int)) ∧ (((0 : Int) ≤ x3) ∧ (x3 ≤ (65536 : Int))))))) (h2 : (((0 : Int) ≤ x4) ∧ (x4 ≤ x1))) (h3 : ((x5 ≤ x0) ∧ (x0 ≤ x1))) (h4 : (((x4 + (1 : Int)) ≤ x5) ∧ (x5 ≤ x1))) : (((0 : Int) ≤ (x0 + (2 : Int))) ∧ (((x0 + (2 : Int)) ≤ x1) ∧ (x1 ≤ (65536 : Int)))) := by omega
theorem q_530 {x0 : Int} : (((0 : Int) ≤ (x0 % (16 : Int))) ∧ ((x0 % (16 : Int)) ≤ (15 : Int))) := by omega
theorem q_531 {x0 : Int} : (inr (x0 % (16 : Int))) := by omega
theorem q_532 {x0 x1 x2 x3 x4 : Int} (h0 : (((0 : Int) ≤ x0) ∧ ((x0 ≤ x1) ∧ ((x1 ≤ (65536 : Int)) ∧ (((0 : Int) ≤ x2) ∧ (x2 ≤ (65536 : Int))))))) (h1 : ((x3 ≤ x4) ∧ (x4 ≤ (x3 + x2)))) : (inr (x2 - (x4 - x3))) := by omega
theorem q_533 {x0 : Int} : (((0 : Int) ≤ (0 : Int)) ∨ ((0 : Int) ≤ (x0 + (4 : Int)))) := by omega
theorem q_534 {x0 x1 x2 x3 x4 x5 : Int} (h0 : ((x0 + (4 : Int)) ≤ (x1 - (x2 - x3)))) (h1 : (((0 : Int) ≤ x4) ∧ ((x4 ≤ x5) ∧ ((x5 ≤ (65536 : Int)) ∧ (((0 : Int) ≤ x1) ∧ (x1 ≤ (65536 : Int))))))) (h2 : ((x3 ≤ x2) ∧ (x2 ≤ (x3 + x1)))) (h3 : (((0 : Int) ≤ x0) ∧ (x0 ≤ (16711695 : Int)))) : (inr (x0 + (4 : Int))) := by omega
theorem q_535 {x0 x1 x2 x3 x4 : Int} (h0 : (((0 : Int) ≤ x0) ∧ (x0 ≤ x1))) (h1 : ((x2 ≤ x3) ∧ (x3 ≤ x1))) (h2 : (((x0 + (1 : Int)) ≤ x2) ∧ (x2 ≤ x1))) (h3 : (((x3 + (2 : Int)) ≤ x4) ∧ (x4 ≤ x1))) : (((0 : Int) ≤ x4) ∧ (x4 ≤ x1)) := by omega
theorem q_536 {x0 x1 x2 x3 x4 : Int} (h0 : ((x0 ≤ x1) ∧ (x1 ≤ x2))) (h1 : (((x3 + (1 : Int)) ≤ x0) ∧ (x0 ≤ x2))) (h2 : (((x1 + (2 : Int)) ≤ x4) ∧ (x4 ≤ x2))) : ((x2 - x4) < (x2 - x3)) := by omega
theorem q_537 {x0 x1 x2 x3 : Int} (h0 : ((x0 + (2 : Int)) ≤ x1)) (h1 : (((0 : Int) ≤ x2) ∧ (x2 ≤ x1))) (h2 : ((x3 ≤ x0) ∧ (x0 ≤ x1))) (h3 : (((x2 + (1 : Int)) ≤ x3) ∧ (x3 ≤ x1))) : ((0 : Int) < (x1 - x2)) := by omega
theorem q_538 {x0 x1 x2 x3 x4 x5 x6 x7 : Int} (h0 : ((x0 + ((256 : Int) * x1)) ≤ x2)) (h1 : ((x3 + (4 : Int)) ≤ (x4 - (x2 - x5)))) (h2 : (x6 < (x3 + (4 : Int)))) (h3 : (((0 : Int) ≤ x5) ∧ ((x5 + x4) ≤ (131072 : Int)))) (h4 : ((0 : Int) ≤ x6)) (h5 : (x7 = (x2 + x6))) (h6 : (((0 : Int) ≤ x0) ∧ (x0 ≤ (255 : Int)))) (h7 : (((0 : Int) ≤ x1) ∧ (x1 ≤ (255 : Int)))) : (((0 : Int) ≤ (x7 - (x0 + ((256 : Int) * x1)))) ∧ ((x7 - (x0 + ((256 : Int) * x1))) < ((131072 : Nat) : Int))) := by omega
theorem q_539 {x0 x1 x2 x3 x4 x5 : Int} (h0 : ((x0 + (4 : Int)) ≤ (x1 - (x2 - x3)))) (h1 : (x4 < (x0 + (4 : Int)))) (h2 : (((0 : Int) ≤ x3) ∧ ((x3 + x1) ≤ (131072 : Int)))) (h3 : ((0 : Int) ≤ x4)) (h4 : (x5 = (x2 + x4))) (h5 : ((x3 ≤ x2) ∧ (x2 ≤ (x3 + x1)))) : (((0 : Int) ≤ x5) ∧ (x5 < ((131072 : Nat) : Int))) := by omega
theorem q_540 {x0 x1 x2 x3 x4 x5 : Int} (h0 : ((x0 + (4 : Int)) ≤ (x1 - (x2 - x3)))) (h1 : (x4 < (x0 + (4 : Int)))) (h2 : (((0 : Int) ≤ x3) ∧ ((x3 + x1) ≤ (131072 : Int)))) (h3 : (x5 = (x2 + x4))) (h4 : (((-(2147483648 : Int)) ≤ x5) ∧ (x5 ≤ (2147483647 : Int)))) : (((-(2147483648 : Int)) ≤ (x5 + (1 : Int))) ∧ ((x5 + (1 : Int)) ≤ (2147483647 : Int))) := by omega
theorem q_541 {x0 x1 x2 : Int} (h0 : (x0 = (x1 + x2))) : ((x0 + (1 : Int)) = (x1 + (x2 + (1 : Int)))) := by omega
theorem q_542 {x0 x1 : Int} (h0 : (x0 < (x1 + (4 : Int)))) : (((x0 + (1 : Int)) ≤ (0 : Int)) ∨ ((x0 + (1 : Int)) ≤ (x1 + (4 : Int)))) := by omega
theorem q_543 {x0 x1 x2 x3 x4 x5 x6 : Int} (h0 : ((x0 + (4 : Int)) ≤ (x1 - (x2 - x3)))) (h1 : (x4 < (x0 + (4 : Int)))) (h2 : (((0 : Int) ≤ x5) ∧ ((x5 ≤ x6) ∧ ((x6 ≤ (65536 : Int)) ∧ (((0 : Int) ≤ x1) ∧ (x1 ≤ (65536 : Int))))))) (h3 : ((0 : Int) ≤ x4)) (h4 : ((x3 ≤ x2) ∧ (x2 ≤ (x3 + x1)))) : (inr (x4 + (1 : Int))) := by omega
theorem q_544 {x0 x1 : Int} : (((x0 + (4 : Int)) - (x1 + (1 : Int))) < ((x0 + (4 : Int)) - x1)) := by omega
theorem q_545 {x0 x1 : Int} (h0 : (x0 < (x1 + (4 : Int)))) : ((0 : Int) < ((x1 + (4 : Int)) - x0)) := by omega
theorem q_546 : (((0 : Int) ≤ (3 : Int)) ∧ ((3 : Int) ≤ (3 : Int))) := by omega
theorem q_547 : (((0 : Int) ≤ (1 : Int)) ∧ ((1 : Int) ≤ (3 : Int))) := by omega
theorem q_548 : (((0 : Int) ≤ (0 : Int)) ∧ ((0 : Int) ≤ (3 : Int))) := by omega
theorem q_549 {x0 x1 x2 : Int} (h0 : (((0 : Int) ≤ x0) ∧ ((x0 + x1) ≤ (131072 : Int)))) (h1 : ((x0 ≤ x2) ∧ (x2 ≤ (x0 + x1)))) : (inr (x2 - x0)) := by omega
theorem q_550 {x0 x1 x2 : Int} (h0 : (((0 : Int) ≤ x0) ∧ ((x0 + x1) ≤ (131072 : Int)))) (h1 : ((x0 ≤ x2) ∧ (x2 ≤ (x0 + x1)))) (h2 : (((-(2147483648 : Int)) ≤ x2) ∧ (x2 ≤ (2147483647 : Int)))) : (((-(2147483648 : Int)) ≤ (x2 + (1 : Int))) ∧ ((x2 + (1 : Int)) ≤ (2147483647 : Int))) := by omega
theorem q_551 {x0 x1 x2 x3 x4 : Int} (h0 : (((0 : Int) ≤ x0) ∧ ((x0 ≤ x1) ∧ ((x1 ≤ (65536 : Int)) ∧ (((0 : Int) ≤ x2) ∧ (x2 ≤ (65536 : Int))))))) (h1 : ((x3 ≤ x4) ∧ (x4 ≤ x1))) (h2 : (((-(2147483648 : Int)) ≤ x4) ∧ (x4 ≤ (2147483647 : Int)))) : (((-(2147483648 : Int)) ≤ (x4 + (1 : Int))) ∧ ((x4 + (1 : Int)) ≤ (2147483647 : Int))) := by omega
theorem q_552 {x0 x1 x2 x3 : Int} (h0 : ((0 : Int) < x0)) (h1 : ((x0 = (x1 - (x2 - x3))) ∧ ((0 : Int) ≤ x0))) : (((x0 + (-(1 : Int))) = (x1 - ((x2 + (1 : Int)) - x3))) ∧ ((0 : Int) ≤ (x0 + (-(1 : Int))))) := by omega
theorem q_553 {x0 x1 : Int} (h0 : ((0 : Int) < x0)) : ((x1 ≤ (x0 + (-(1 : Int)))) ∨ ((0 : Int) ≤ (x0 + (-(1 : Int))))) := by omega
theorem q_554 {x0 x1 : Int} (h0 : (x0 ≤ x1)) : ((x0 + (-(1 : Int))) ≤ x1) := by omega
theorem q_555 {x0 : Int} (h0 : ((0 : Int) < x0)) (h1 : (inr x0)) : (inr (x0 + (-(1 : Int)))) := by omega
theorem q_556 {x0 : Int} : (((x0 + (-(1 : Int))) - (0 : Int)) < (x0 - (0 : Int))) := by omega
theorem q_557 {x0 : Int} (h0 : ((0 : Int) < x0)) : ((0 : Int) < (x0 - (0 : Int))) := by omega
theorem q_558 : (inr (-(4 : Int))) := by omega
theorem q_559 {x0 x1 x2 : Int} (h0 : (x0 ≤ (65536 : Int))) (h1 : (x1 = x2)) (h2 : (((0 : Int) ≤ x2) ∧ (x2 ≤ (65536 : Int)))) : (((0 : Int) ≤ x1) ∧ ((x1 + x0) ≤ (131072 : Int))) := by omega
theorem q_560 {x0 x1 : Int} (h0 : ((0 : Int) ≤ x0)) (h1 : (x0 ≤ (65536 : Int))) (h2 : (((0 : Int) ≤ x1) ∧ (x1 ≤ (65536 : Int)))) : (((0 : Int) ≤ (0 : Int)) ∧ (((0 : Int) ≤ x1) ∧ ((x1 ≤ (65536 : Int)) ∧ (((0 : Int) ≤ x0) ∧ (x0 ≤ (65536 : Int)))))) := by omega
theorem q_561 {x0 x1 x2 x3 : Int} (h0 : (x0 ≤ (65536 : Int))) (h1 : (x1 = x2)) (h2 : ((x1 ≤ x3) ∧ (x3 ≤ (x1 + x0)))) : (((0 : Int) ≤ (x3 - x2)) ∧ ((x3 - x2) ≤ (65536 : Int))) := by omega
theorem q_562 {x0 x1 : Int} : (((0 : Int) ≤ (0 : Int)) ∨ ((0 : Int) ≤ (x0 - x1))) := by omega
theorem q_563 {x0 x1 x2 x3 : Int} (h0 : (x0 = x1)) (h1 : ((x0 ≤ x2) ∧ (x2 ≤ (x0 + x3)))) (h2 : (((0 : Int) ≤ x1) ∧ (x1 ≤ (65536 : Int)))) (h3 : (((-(2147483648 : Int)) ≤ x2) ∧ (x2 ≤ (2147483647 : Int)))) : (inr (x2 - x1)) := by omega
theorem q_564 {x0 x1 x2 x3 x4 : Int} (h0 : (x0 < (x1 - x2))) (h1 : (x3 ≤ (65536 : Int))) (h2 : ((0 : Int) ≤ x0)) (h3 : (x4 = x2)) (h4 : ((x4 ≤ x1) ∧ (x1 ≤ (x4 + x3)))) (h5 : (((0 : Int) ≤ x2) ∧ (x2 ≤ (65536 : Int)))) : (((0 : Int) ≤ (x2 + x0)) ∧ ((x2 + x0) < ((131072 : Nat) : Int))) := by omega
theorem q_565 {x0 x1 x2 x3 x4 : Int} (h0 : (x0 < (x1 - x2))) (h1 : (x3 ≤ (65536 : Int))) (h2 : ((0 : Int) ≤ x0)) (h3 : (x4 = x2)) (h4 : ((x4 ≤ x1) ∧ (x1 ≤ (x4 + x3)))) : (((0 : Int) ≤ x0) ∧ (x0 < ((65536 : Nat) : Int))) := by omega
theorem q_566 {x0 x1 x2 : Int} (h0 : (x0 < (x1 - x2))) : (((x0 + (1 : Int)) ≤ (0 : Int)) ∨ ((x0 + (1 : Int)) ≤ (x1 - x2))) := by omega
theorem q_567 {x0 x1 x2 x3 x4 : Int} (h0 : (x0 < (x1 - x2))) (h1 : (x3 ≤ (65536 : Int))) (h2 : ((0 : Int) ≤ x0)) (h3 : (x4 = x2)) (h4 : ((x4 ≤ x1) ∧ (x1 ≤ (x4 + x3)))) : (inr (x0 + (1 : Int))) := by omega
theorem q_568 {x0 x1 x2 : Int} (h0 : (x0 < (x1 - x2))) : ((0 : Int) < ((x1 - x2) - x0)) := by omega
theorem q_569 {x0 : Int} (h0 : ((0 : Int) < x0)) (h1 : (((0 : Int) ≤ x0) ∧ (x0 ≤ (3 : Int)))) : (inr (-x0)) := by omega
theorem q_570 {x0 x1 : Int} (h0 : (((0 : Int) ≤ x0) ∧ ((x0 ≤ x1) ∧ (x1 ≤ (70000 : Int))))) : (inr (x1 - x0)) := by omega
theorem q_571 {x0 x1 x2 : Int} (h0 : (((0 : Int) ≤ x0) ∧ ((x0 ≤ x1) ∧ (x1 ≤ (70000 : Int))))) (h1 : ((x0 ≤ x2) ∧ (x2 ≤ x1))) : (inr (x1 - x2)) := by omega
theorem q_572 : (inrJ (2246822519 : Int)) := by omega
theorem q_573 : (inrJ (3266489917 : Int)) := by omega
theorem q_574 {x0 x1 x2 x3 : Int} (h0 : (x0 < x1)) (h1 : (((0 : Int) ≤ x2) ∧ ((x2 ≤ x1) ∧ (x1 ≤ (70000 : Int))))) (h2 : ((x2 ≤ x3) ∧ (x3 ≤ x1))) (h3 : (x3 ≤ x0)) : (((0 : Int) ≤ x0) ∧ (x0 < ((70000 : Nat) : Int))) := by omega
theorem q_575 : (inrJ (374761393 : Int)) := by omega
theorem q_576 {x0 : Int} (h0 : (((0 : Int) ≤ x0) ∧ (x0 ≤ (255 : Int)))) : (inrJ x0) := by omega
theorem q_577 : (((1 : Int) ≤ (11 : Int)) ∧ ((11 : Int) ≤ (31 : Int))) := by omega
theorem q_578 : (inrJ (2654435761 : Int)) := by omega
theorem q_579 {x0 x1 x2 : Int} (h0 : (x0 < x1)) (h1 : (((0 : Int) ≤ x2) ∧ ((x2 ≤ x1) ∧ (x1 ≤ (70000 : Int))))) (h2 : (inr x0)) : (inr (x0 + (1 : Int))) := by omega
theorem q_580 {x0 x1 x2 : Int} (h0 : ((4 : Int) ≤ (x0 - x1))) (h1 : (((0 : Int) ≤ x2) ∧ ((x2 ≤ x0) ∧ (x0 ≤ (70000 : Int))))) (h2 : ((x2 ≤ x1) ∧ (x1 ≤ x0))) : (((0 : Int) ≤ x1) ∧ ((x1 + (3 : Int)) < (70000 : Int))) := by omega
theorem q_581 : (((1 : Int) ≤ (17 : Int)) ∧ ((17 : Int) ≤ (31 : Int))) := by omega
theorem q_582 : (inr (17 : Int)) := by omega
theorem q_583 : (inrJ (668265263 : Int)) := by omega
theorem q_584 {x0 x1 x2 : Int} (h0 : ((4 : Int) ≤ (x0 - x1))) (h1 : ((x2 ≤ x1) ∧ (x1 ≤ x0))) : ((x2 ≤ (x1 + (4 : Int))) ∧ ((x1 + (4 : Int)) ≤ x0)) := by omega
theorem q_585 {x0 x1 x2 : Int} (h0 : ((4 : Int) ≤ (x0 - x1))) (h1 : (((0 : Int) ≤ x2) ∧ ((x2 ≤ x0) ∧ (x0 ≤ (70000 : Int))))) (h2 : (inr x1)) : (inr (x1 + (4 : Int))) := by omega
theorem q_586 {x0 x1 : Int} : ((x0 - (x1 + (4 : Int))) < (x0 - x1)) := by omega
theorem q_587 {x0 x1 : Int} (h0 : ((4 : Int) ≤ (x0 - x1))) : ((0 : Int) < (x0 - x1)) := by omega
theorem q_588 {x0 x1 : Int} (h0 : (((0 : Int) ≤ x0) ∧ ((x0 ≤ x1) ∧ (x1 ≤ (70000 : Int))))) : ((x0 ≤ x0) ∧ (x0 ≤ x1)) := by omega
theorem q_589 : (((0 : Int) ≤ (0 : Int)) ∧ ((0 : Int) < ((4 : Nat) : Int))) := by omega
theorem q_590 : (((-(9223372036854775808 : Int)) ≤ (2246822519 : Int)) ∧ ((2246822519 : Int) ≤ (9223372036854775807 : Int))) := by omega
theorem q_591 : (((0 : Int) ≤ (1 : Int)) ∧ ((1 : Int) < ((4 : Nat) : Int))) := by omega
theorem q_592 : (((-(9223372036854775808 : Int)) ≤ (0 : Int)) ∧ ((0 : Int) ≤ (9223372036854775807 : Int))) := by omega
theorem q_593 : (((0 : Int) ≤ (2 : Int)) ∧ ((2 : Int) < ((4 : Nat) : Int))) := by omega
theorem q_594 : (((0 : Int) ≤ (3 : Int)) ∧ ((3 : Int) < ((4 : Nat) : Int))) := by omega
theorem q_595 : (((1 : Int) ≤ (1 : Int)) ∧ ((1 : Int) ≤ (31 : Int))) := by omega
theorem q_596 : (((1 : Int) ≤ (7 : Int)) ∧ ((7 : Int) ≤ (31 : Int))) := by omega
theorem q_597 : (inr (7 : Int)) := by omega
theorem q_598 : (((1 : Int) ≤ (12 : Int)) ∧ ((12 : Int) ≤ (31 : Int))) := by omega
theorem q_599 : (inr (12 : Int)) := by omega
theorem q_600 : (((1 : Int) ≤ (18 : Int)) ∧ ((18 : Int) ≤ (31 : Int))) := by omega
theorem q_601 : (inr (18 : Int)) := by omega
theorem q_602 {x0 : Int} : (x0 = (x0 + ((4 : Int) * (0 : Int)))) := by omega
theorem q_603 : (((0 : Int) ≤ (0 : Int)) ∨ ((0 : Int) ≤ (4 : Int))) := by omega
theorem q_604 {x0 x1 x2 x3 : Int} (h0 : ((4 : Int) ≤ x0)) (h1 : (x1 = (x2 + ((4 : Int) * x0)))) : ((x3 - x1) < (x3 - x2)) := by omega
theorem q_605 {x0 : Int} (h0 : (x0 < (4 : Int))) (h1 : ((0 : Int) ≤ x0)) : (((0 : Int) ≤ x0) ∧ (x0 < ((4 : Nat) : Int))) := by omega
theorem q_606 {x0 x1 x2 x3 x4 : Int} (h0 : ((16 : Int) ≤ (x0 - x1))) (h1 : (x2 < (4 : Int))) (h2 : (((0 : Int) ≤ x3) ∧ ((x3 ≤ x0) ∧ (x0 ≤ (70000 : Int))))) (h3 : ((0 : Int) ≤ x2)) (h4 : (x4 = (x1 + ((4 : Int) * x2)))) (h5 : ((x3 ≤ x1) ∧ (x1 ≤ x0))) : (((0 : Int) ≤ x4) ∧ ((x4 + (3 : Int)) < (70000 : Int))) := by omega
theorem q_607 : (((1 : Int) ≤ (13 : Int)) ∧ ((13 : Int) ≤ (31 : Int))) := by omega
theorem q_608 {x0 x1 x2 : Int} (h0 : (x0 = (x1 + ((4 : Int) * x2)))) : ((x0 + (4 : Int)) = (x1 + ((4 : Int) * (x2 + (1 : Int))))) := by omega
theorem q_609 {x0 : Int} (h0 : (x0 < (4 : Int))) : (((x0 + (1 : Int)) ≤ (0 : Int)) ∨ ((x0 + (1 : Int)) ≤ (4 : Int))) := by omega
theorem q_610 {x0 : Int} (h0 : (x0 < (4 : Int))) (h1 : ((0 : Int) ≤ x0)) : (inr (x0 + (1 : Int))) := by omega
theorem q_611 {x0 x1 x2 x3 x4 : Int} (h0 : ((16 : Int) ≤ (x0 - x1))) (h1 : (x2 < (4 : Int))) (h2 : (((0 : Int) ≤ x3) ∧ ((x3 ≤ x0) ∧ (x0 ≤ (70000 : Int))))) (h3 : (inr x4)) (h4 : (x4 = (x1 + ((4 : Int) * x2)))) : (inr (x4 + (4 : Int))) := by omega
theorem q_612 {x0 : Int} : (((4 : Int) - (x0 + (1 : Int))) < ((4 : Int) - x0)) := by omega
theorem q_613 {x0 : Int} (h0 : (x0 < (4 : Int))) : ((0 : Int) < ((4 : Int) - x0)) := by omega
theorem q_614 {x0 x1 : Int} (h0 : (((0 : Int) ≤ x0) ∧ ((x0 ≤ x1) ∧ (x1 ≤ (65536 : Int))))) : (inr (x1 - x0)) := by omega
theorem q_615 {x0 x1 x2 : Int} (h0 : (((0 : Int) ≤ x0) ∧ ((x0 ≤ x1) ∧ (x1 ≤ (65536 : Int))))) (h1 : ((x0 ≤ x2) ∧ (x2 ≤ x1))) : (inr (x1 - x2)) := by omega
theorem q_616 {x0 x1 x2 x3 : Int} (h0 : (x0 < x1)) (h1 : (((0 : Int) ≤ x2) ∧ ((x2 ≤ x1) ∧ (x1 ≤ (65536 : Int))))) (h2 : ((x2 ≤ x3) ∧ (x3 ≤ x1))) (h3 : (x3 ≤ x0)) : (((0 : Int) ≤ x0) ∧ (x0 < ((65536 : Nat) : Int))) := by omega
theorem q_617 {x0 x1 x2 : Int} (h0 : ((4 : Int) ≤ (x0 - x1))) (h1 : (((0 : Int) ≤ x2) ∧ ((x2 ≤ x0) ∧ (x0 ≤ (65536 : Int))))) (h2 : ((x2 ≤ x1) ∧ (x1 ≤ x0))) : (((0 : Int) ≤ x1) ∧ ((x1 + (3 : Int)) < (65536 : Int))) := by omega
theorem q_618 {x0 x1 x2 : Int} (h0 : ((4 : Int) ≤ (x0 - x1))) (h1 : (((0 : Int) ≤ x2) ∧ ((x2 ≤ x0) ∧ (x0 ≤ (65536 : Int))))) (h2 : (inr x1)) : (inr (x1 + (4 : Int))) := by omega
theorem q_619 {x0 x1 : Int} (h0 : (((0 : Int) ≤ x0) ∧ ((x0 ≤ x1) ∧ (x1 ≤ (65536 : Int))))) : ((x0 ≤ x0) ∧ (x0 ≤ x1)) := by omega
theorem q_620 {x0 x1 x2 x3 x4 : Int} (h0 : ((16 : Int) ≤ (x0 - x1))) (h1 : (x2 < (4 : Int))) (h2 : (((0 : Int) ≤ x3) ∧ ((x3 ≤ x0) ∧ (x0 ≤ (65536 : Int))))) (h3 : ((0 : Int) ≤ x2)) (h4 : (x4 = (x1 + ((4 : Int) * x2)))) (h5 : ((x3 ≤ x1) ∧ (x1 ≤ x0))) : (((0 : Int) ≤ x4) ∧ ((x4 + (3 : Int)) < (65536 : Int))) := by omega
theorem q_621 {x0 x1 x2 x3 x4 : Int} (h0 : ((16 : Int) ≤ (x0 - x1))) (h1 : (x2 < (4 : Int))) (h2 : (((0 : Int) ≤ x3) ∧ ((x3 ≤ x0) ∧ (x0 ≤ (65536 : Int))))) (h3 : (inr x4)) (h4 : (x4 = (x1 + ((4 : Int) * x2)))) : (inr (x4 + (4 : Int))) := by omega
theorem q_622 : (((0 : Int) ≤ (0 : Int)) ∧ ((0 : Int) ≤ (10000000 : Int))) := by omega
theorem q_623 : (((0 : Int) ≤ (4 : Int)) ∧ ((4 : Int) ≤ (8 : Int))) := by omega
theorem q_624 : (inrJ (407708164 : Int)) := by omega
theorem q_625 {x0 : Int} (h0 : (x0 = ((0 : Int) + (4 : Int)))) : (((0 : Int) ≤ x0) ∧ (x0 ≤ (100000000 : Int))) := by omega
theorem q_626 {x0 : Int} (h0 : (((64 : Int) ≤ x0) ∧ (x0 < (128 : Int)))) : (((0 : Int) ≤ x0) ∧ (x0 ≤ (255 : Int))) := by omega
theorem q_627 {x0 x1 : Int} (h0 : (x0 = ((0 : Int) + (4 : Int)))) (h1 : (x1 = (x0 + (1 : Int)))) : (((0 : Int) ≤ x1) ∧ (x1 ≤ (100000000 : Int))) := by omega
theorem q_628 {x0 : Int} (h0 : (x0 ≤ (7 : Int))) (h1 : ((4 : Int) ≤ x0)) : (((0 : Int) ≤ ((16 : Int) * x0)) ∧ (((16 : Int) * x0) ≤ (255 : Int))) := by omega
theorem q_629 {x0 : Int} (h0 : (x0 ≤ (7 : Int))) (h1 : ((4 : Int) ≤ x0)) : (inr ((16 : Int) * x0)) := by omega
theorem q_630 {x0 : Int} (h0 : (((6 : Int) ≤ x0) ∧ (x0 ≤ (18 : Int)))) : (((0 : Int) ≤ (4 : Int)) ∧ (((4 : Int) ≤ x0) ∧ (x0 ≤ (70000 : Int)))) := by omega
theorem q_631 {x0 : Int} (h0 : (((6 : Int) ≤ x0) ∧ (x0 ≤ (18 : Int)))) : (inr x0) := by omega
theorem q_632 {x0 : Int} (h0 : (((6 : Int) ≤ x0) ∧ (x0 ≤ (18 : Int)))) : (((0 : Int) ≤ x0) ∧ (x0 ≤ (100000000 : Int))) := by omega
theorem q_633 {x0 x1 x2 : Int} (h0 : (((6 : Int) ≤ x0) ∧ (x0 ≤ (18 : Int)))) (h1 : (x1 = (x0 + (1 : Int)))) (h2 : (((0 : Int) ≤ x2) ∧ (x2 ≤ (65536 : Int)))) : (((x1 ≤ ((30 : Int) + ((9 : Int) * (0 : Int)))) ∧ ((0 : Int) ≤ x2)) ∨ ((x1 ≤ ((30 : Int) + ((9 : Int) * x2))) ∧ (x2 ≤ (0 : Int)))) := by omega
theorem q_634 {x0 x1 : Int} (h0 : (((6 : Int) ≤ x0) ∧ (x0 ≤ (18 : Int)))) (h1 : (x1 = (x0 + (1 : Int)))) : ((0 : Int) ≤ x1) := by omega
theorem q_635 {x0 x1 x2 : Int} (h0 : ((0 : Int) ≤ x0)) (h1 : (((x0 ≤ ((30 : Int) + ((9 : Int) * x1))) ∧ (x1 ≤ x2)) ∨ ((x0 ≤ ((30 : Int) + ((9 : Int) * x2))) ∧ (x2 ≤ x1)))) (h2 : (((0 : Int) ≤ x2) ∧ (x2 ≤ (65536 : Int)))) : (((0 : Int) ≤ x0) ∧ (x0 ≤ (10000000 : Int))) := by omega
theorem q_636 {x0 : Int} (h0 : (((0 : Int) ≤ x0) ∧ (x0 ≤ (65536 : Int)))) : (((0 : Int) ≤ (0 : Int)) ∧ (((0 : Int) ≤ x0) ∧ (x0 ≤ (65536 : Int)))) := by omega
theorem q_637 {x0 x1 x2 x3 x4 : Int} (h0 : ((x0 + x1) ≤ (16384 : Int))) (h1 : ((0 : Int) ≤ x2)) (h2 : ((x2 ≤ x3) ∧ (x3 ≤ x1))) (h3 : ((x0 ≤ x4) ∧ (x4 ≤ (x0 + x2)))) (h4 : (((0 : Int) ≤ x1) ∧ (x1 ≤ (65536 : Int)))) : (((0 : Int) ≤ x2) ∧ ((x2 ≤ x3) ∧ ((x3 ≤ (65536 : Int)) ∧ ((x4 + (x3 - x2)) ≤ (16384 : Int))))) := by omega
theorem q_638 {x0 x1 x2 x3 : Int} (h0 : (x0 < x1)) (h1 : ((x2 + x1) ≤ (16384 : Int))) (h2 : ((x2 ≤ x3) ∧ (x3 ≤ (x2 + x0)))) (h3 : (((0 : Int) ≤ x2) ∧ (x2 ≤ (65536 : Int)))) : (((0 : Int) ≤ x3) ∧ (x3 ≤ (16384 : Int))) := by omega
theorem q_639 {x0 x1 x2 x3 x4 x5 : Int} (h0 : ((x0 ≤ x1) ∧ (x1 ≤ x2))) (h1 : ((x3 ≤ x4) ∧ (x4 ≤ (x3 + x0)))) (h2 : (x5 = (x4 + (x1 - x0)))) (h3 : (((0 : Int) ≤ x3) ∧ (x3 ≤ (65536 : Int)))) : (((0 : Int) ≤ x4) ∧ (x4 ≤ x5)) := by omega
theorem q_640 {x0 x1 x2 x3 x4 x5 : Int} (h0 : ((x0 + x1) ≤ (16384 : Int))) (h1 : ((x2 ≤ x3) ∧ (x3 ≤ x1))) (h2 : ((x0 ≤ x4) ∧ (x4 ≤ (x0 + x2)))) (h3 : (x5 = (x4 + (x3 - x2)))) (h4 : (((0 : Int) ≤ x0) ∧ (x0 ≤ (65536 : Int)))) : (((0 : Int) ≤ x5) ∧ (x5 ≤ (16384 : Int))) := by omega
theorem q_641 {x0 x1 x2 : Int} (h0 : (((0 : Int) ≤ x0) ∧ (x0 ≤ (x1 - x2)))) : ((0 : Int) ≤ x0) := by omega
theorem q_642 {x0 x1 x2 x3 : Int} (h0 : ((0 : Int) ≤ x0)) (h1 : ((0 : Int) ≤ x1)) (h2 : (x2 = (x3 + x1))) (h3 : (x3 = (x0 + (4 : Int)))) : ((0 : Int) ≤ x2) := by omega
theorem q_643 {x0 x1 : Int} (h0 : ((1 : Int) ≤ x0)) (h1 : ((0 : Int) ≤ x1)) : ((0 : Int) ≤ (x1 + x0)) := by omega
theorem q_644 {x0 x1 x2 : Int} (h0 : ((1 : Int) ≤ x0)) (h1 : (x0 ≤ (65536 : Int))) (h2 : (x1 < x2)) (h3 : ((0 : Int) ≤ x1)) (h4 : (((0 : Int) ≤ x2) ∧ (x2 ≤ (65536 : Int)))) : (inr (x1 + x0)) := by omega
theorem q_645 {x0 x1 x2 : Int} (h0 : ((1 : Int) ≤ x0)) : ((x1 - (x2 + x0)) < (x1 - x2)) := by omega
theorem q_646 {x0 x1 x2 x3 x4 : Int} (h0 : ((0 : Int) ≤ x0)) (h1 : ((0 : Int) ≤ x1)) (h2 : (x2 = (x3 + x1))) (h3 : (x3 = (x0 + (4 : Int)))) (h4 : (x4 = (x2 + (4 : Int)))) : ((0 : Int) ≤ x4) := by omega
theorem q_647 {x0 x1 : Int} (h0 : (x0 < x1)) (h1 : ((0 : Int) ≤ x0)) (h2 : ((x0 ≤ (0 : Int)) ∨ (x0 ≤ x1))) (h3 : (inr x1)) : (inr (x0 + (1 : Int))) := by omega
theorem q_648 {x0 x1 x2 : Int} (h0 : (x0 < x1)) (h1 : ((0 : Int) ≤ x2)) (h2 : (((x2 ≤ ((30 : Int) + ((9 : Int) * x0))) ∧ (x0 ≤ x1)) ∨ ((x2 ≤ ((30 : Int) + ((9 : Int) * x1))) ∧ (x1 ≤ x0)))) (h3 : (((0 : Int) ≤ x1) ∧ (x1 ≤ (65536 : Int)))) : (((0 : Int) ≤ x2) ∧ (x2 ≤ (10000000 : Int))) := by omega
theorem q_649 {x0 x1 x2 : Int} (h0 : (inr x0)) (h1 : (((0 : Int) ≤ x0) ∧ (x0 ≤ (x1 - x2)))) : (inrJ x0) := by omega
theorem q_650 {x0 x1 x2 : Int} (h0 : (inr x0)) (h1 : (((0 : Int) ≤ x0) ∧ (x0 ≤ (x1 - x2)))) : (inrJ ((2147483648 : Int) + x0)) := by omega
theorem q_651 {x0 x1 x2 x3 : Int} (h0 : (x0 = (0 : Int))) : (((x0 = (1 : Int)) ∧ (x1 = (x2 - x3))) ∨ ((x0 = (0 : Int)) ∧ (x1 = x1))) := by omega
theorem q_652 {x0 x1 x2 : Int} (h0 : ((0 : Int) ≤ x0)) (h1 : (inr x1)) (h2 : ((x0 ≤ x1) ∧ (x1 ≤ x2))) : (inr (x1 - x0)) := by omega
theorem q_653 {x0 x1 x2 : Int} (h0 : (x0 < (x1 - x2))) : ((((0 : Int) = (1 : Int)) ∧ ((x1 - x2) ≤ x0)) ∨ (((0 : Int) = (0 : Int)) ∧ (x0 < (x1 - x2)))) := by omega
theorem q_654 {x0 x1 x2 : Int} (h0 : ((x0 - x1) ≤ x2)) : ((((1 : Int) = (1 : Int)) ∧ ((x0 - x1) ≤ x2)) ∨ (((1 : Int) = (0 : Int)) ∧ (x2 < (x0 - x1)))) := by omega
theorem q_655 : (inr (32 : Int)) := by omega
theorem q_656 {x0 x1 x2 : Int} (h0 : ((0 : Int) ≤ x0)) (h1 : (x1 = x2)) : ((x2 ≤ x1) ∧ (x1 ≤ (x2 + x0))) := by omega
theorem q_657 {x0 x1 x2 x3 : Int} (h0 : (x0 < x1)) (h1 : ((x2 + x1) ≤ (16384 : Int))) (h2 : ((0 : Int) ≤ x0)) (h3 : (x3 = x2)) (h4 : (((0 : Int) ≤ x1) ∧ (x1 ≤ (65536 : Int)))) : (((0 : Int) ≤ (0 : Int)) ∧ (((0 : Int) ≤ x0) ∧ ((x0 ≤ (65536 : Int)) ∧ ((x3 + (x0 - (0 : Int))) ≤ (16384 : Int))))) := by omega
theorem q_658 {x0 x1 x2 x3 : Int} (h0 : ((0 : Int) ≤ x0)) (h1 : (x1 = x2)) (h2 : (x3 = (x1 + (x0 - (0 : Int))))) : ((x2 ≤ x3) ∧ (x3 ≤ (x2 + x0))) := by omega
theorem q_659 {x0 x1 : Int} (h0 : (x0 < x1)) : ((x0 ≤ x1) ∧ (x1 ≤ x1)) := by omega
theorem q_660 {x0 x1 : Int} : ((x0 + x1) ≤ (x0 + x1)) := by omega
theorem q_661 {x0 x1 x2 : Int} : (((x0 + x1) = (x0 + x1)) ∨ (((x0 + x1) = x2) ∧ ((x0 + x1) < (x0 + x1)))) := by omega
theorem q_662 {x0 x1 x2 : Int} (h0 : ((1 : Int) ≤ x0)) (h1 : ((x1 + x0) < x2)) : ((x1 ≤ (x1 + x0)) ∧ ((x1 + x0) ≤ x2)) := by omega
theorem q_663 {x0 x1 x2 : Int} (h0 : ((1 : Int) ≤ x0)) (h1 : ((x1 + x0) < x2)) (h2 : ((0 : Int) ≤ x1)) (h3 : (((0 : Int) ≤ x2) ∧ (x2 ≤ (65536 : Int)))) : (inr (x1 + x0)) := by omega
theorem q_664 {x0 : Int} (h0 : (((6 : Int) ≤ x0) ∧ (x0 ≤ (14 : Int)))) : (((6 : Int) ≤ x0) ∧ (x0 ≤ (18 : Int))) := by omega
theorem q_665 {x0 : Int} (h0 : (((6 : Int) ≤ x0) ∧ (x0 ≤ (14 : Int)))) : (((0 : Int) ≤ x0) ∧ (x0 ≤ (10000000 : Int))) := by omega
theorem q_666 {x0 x1 : Int} (h0 : (((6 : Int) ≤ x0) ∧ (x0 ≤ (14 : Int)))) (h1 : (x1 = (x0 + (4 : Int)))) : (((6 : Int) ≤ x1) ∧ (x1 ≤ (18 : Int))) := by omega
theorem q_667 {x0 x1 x2 : Int} (h0 : (x0 = ((0 : Int) + (4 : Int)))) (h1 : (x1 = (x0 + (1 : Int)))) (h2 : (x2 = (x1 + (1 : Int)))) : (((6 : Int) ≤ x2) ∧ (x2 ≤ (14 : Int))) := by omega
theorem q_668 {x0 x1 x2 : Int} (h0 : (x0 = ((0 : Int) + (4 : Int)))) (h1 : (x1 = (x0 + (1 : Int)))) (h2 : (x2 = (x1 + (1 : Int)))) : (((0 : Int) ≤ x2) ∧ (x2 ≤ (10000000 : Int))) := by omega
theorem q_669 : (((0 : Int) ≤ (8 : Int)) ∧ ((8 : Int) ≤ (8 : Int))) := by omega
theorem q_670 {x0 : Int} (h0 : (((0 : Int) ≤ x0) ∧ (x0 ≤ (65536 : Int)))) : (inrJ x0) := by omega
theorem q_671 {x0 x1 x2 x3 : Int} (h0 : (x0 = ((0 : Int) + (4 : Int)))) (h1 : (x1 = (x2 + (8 : Int)))) (h2 : (x3 = (x0 + (1 : Int)))) (h3 : (x2 = (x3 + (1 : Int)))) : (((6 : Int) ≤ x1) ∧ (x1 ≤ (14 : Int))) := by omega
theorem q_672 {x0 : Int} (h0 : (((0 : Int) ≤ x0) ∧ (x0 ≤ (4194304 : Int)))) : (inrJ x0) := by omega
theorem q_673 {x0 x1 : Int} (h0 : (((0 : Int) ≤ x0) ∧ (x0 ≤ x1))) (h1 : ((x0 + (4 : Int)) ≤ x1)) (h2 : (((0 : Int) ≤ x1) ∧ (x1 ≤ (65536 : Int)))) : (((-(2147483648 : Int)) ≤ (x0 + (4 : Int))) ∧ ((x0 + (4 : Int)) ≤ (2147483647 : Int))) := by omega
theorem q_674 {x0 x1 : Int} (h0 : (((0 : Int) ≤ x0) ∧ (x0 ≤ x1))) (h1 : ((x0 + (4 : Int)) ≤ x1)) (h2 : (((0 : Int) ≤ x1) ∧ (x1 ≤ (65536 : Int)))) : (inr (x1 - (x0 + (4 : Int)))) := by omega
theorem q_675 {x0 x1 : Int} (h0 : (((0 : Int) ≤ x0) ∧ (x0 ≤ x1))) (h1 : ((x0 + (4 : Int)) ≤ x1)) (h2 : (((0 : Int) ≤ x1) ∧ (x1 ≤ (65536 : Int)))) : (inrJ (x1 - (x0 + (4 : Int)))) := by omega
theorem q_676 {x0 x1 : Int} : ((x0 = x0) ∨ (x1 = (0 : Int))) := by omega
theorem q_677 {x0 x1 x2 x3 x4 x5 x6 : Int} (h0 : (((0 : Int) ≤ x0) ∧ ((x0 ≤ x1) ∧ ((x1 ≤ x2) ∧ (x2 ≤ (65536 : Int)))))) (h1 : (x0 ≤ x3)) (h2 : ((x3 ≤ x0) ∨ (x3 ≤ x1))) (h3 : (x4 = (x5 + (x3 - x0)))) (h4 : (x5 = x6)) (h5 : (((0 : Int) ≤ x6) ∧ (x6 ≤ (65536 : Int)))) (h6 : (((0 : Int) ≤ x1) ∧ (x1 ≤ (65536 : Int)))) : (((0 : Int) ≤ x4) ∧ ((x4 + (x2 - x1)) ≤ (131072 : Int))) := by omega
theorem q_678 {x0 x1 x2 x3 x4 x5 x6 x7 : Int} (h0 : (((0 : Int) ≤ x0) ∧ (x0 ≤ x1))) (h1 : (((0 : Int) ≤ x2) ∧ ((x2 ≤ x3) ∧ ((x3 ≤ x4) ∧ (x4 ≤ (65536 : Int)))))) (h2 : (x5 = (x6 % (2147483648 : Int)))) (h3 : ((((x0 + (4 : Int)) + x5) ≤ x7) ∧ (x7 ≤ x1))) (h4 : (((0 : Int) ≤ x1) ∧ (x1 ≤ (65536 : Int)))) (h5 : (((0 : Int) ≤ x3) ∧ (x3 ≤ (65536 : Int)))) : (((0 : Int) ≤ (x0 + (4 : Int))) ∧ (((x0 + (4 : Int)) ≤ ((x0 + (4 : Int)) + x5)) ∧ ((((x0 + (4 : Int)) + x5) ≤ (65536 : Int)) ∧ (((0 : Int) ≤ (x4 - x3)) ∧ ((x4 - x3) ≤ (65536 : Int)))))) := by omega
theorem q_679 {x0 x1 x2 : Int} (h0 : (((0 : Int) ≤ x0) ∧ ((x0 ≤ x1) ∧ ((x1 ≤ x2) ∧ (x2 ≤ (65536 : Int)))))) (h1 : (((0 : Int) ≤ x1) ∧ (x1 ≤ (65536 : Int)))) : (inr (x2 - x1)) := by omega
theorem q_680 {x0 x1 x2 x3 x4 : Int} (h0 : (((0 : Int) ≤ x0) ∧ (x0 ≤ x1))) (h1 : (x2 = (x3 % (2147483648 : Int)))) (h2 : ((((x0 + (4 : Int)) + x2) ≤ x4) ∧ (x4 ≤ x1))) (h3 : (((0 : Int) ≤ x1) ∧ (x1 ≤ (65536 : Int)))) : (inr ((x0 + (4 : Int)) + x2)) := by omega
theorem q_681 {x0 x1 : Int} (h0 : (((0 : Int) ≤ x0) ∧ (x0 ≤ x1))) (h1 : ((x0 + (4 : Int)) ≤ x1)) (h2 : (((0 : Int) ≤ x1) ∧ (x1 ≤ (65536 : Int)))) : (inr (x0 + (4 : Int))) := by omega
theorem q_682 {x0 x1 x2 x3 x4 : Int} (h0 : (x0 = (x1 % (2147483648 : Int)))) (h1 : ((((x2 + (4 : Int)) + x0) ≤ x3) ∧ (x3 ≤ x4))) : (((0 : Int) ≠ (0 : Int)) ∨ (((x2 + (4 : Int)) ≤ x3) ∧ (x3 ≤ x4))) := by omega
theorem q_683 : (((0 : Int) ≤ (0 : Int)) ∧ ((0 : Int) ≤ (20 : Int))) := by omega
theorem q_684 {x0 x1 x2 x3 x4 x5 x6 : Int} (h0 : (x0 < x1)) (h1 : (((0 : Int) ≤ x2) ∧ ((x2 ≤ x3) ∧ ((x3 ≤ x4) ∧ (x4 ≤ (65536 : Int)))))) (h2 : (x5 = (x3 + (x0 - x6)))) (h3 : ((x6 ≤ x1) ∧ (x1 ≤ (x6 + (x4 - x3))))) (h4 : (((0 : Int) ≤ x5) ∧ (x5 ≤ (65536 : Int)))) : (((0 : Int) ≤ x5) ∧ (x5 < ((65536 : Nat) : Int))) := by omega
theorem q_685 {x0 x1 x2 x3 x4 x5 x6 : Int} (h0 : (x0 < x1)) (h1 : (((0 : Int) ≤ x2) ∧ ((x2 ≤ x3) ∧ ((x3 ≤ x4) ∧ (x4 ≤ (65536 : Int)))))) (h2 : (x5 = (x3 + (x0 - x6)))) (h3 : ((x6 ≤ x1) ∧ (x1 ≤ (x6 + (x4 - x3))))) (h4 : (((0 : Int) ≤ x5) ∧ (x5 ≤ (65536 : Int)))) : (((0 : Int) ≤ (x5 + (1 : Int))) ∧ ((x5 + (1 : Int)) ≤ (65536 : Int))) := by omega
theorem q_686 {x0 x1 x2 x3 : Int} (h0 : ((0 : Int) < x0)) : ((x0 ≠ (0 : Int)) ∨ (((x1 + (4 : Int)) ≤ x2) ∧ (x2 ≤ x3))) := by omega
theorem q_687 {x0 x1 x2 : Int} (h0 : (((0 : Int) ≤ x0) ∧ ((x0 ≤ x1) ∧ ((x1 ≤ x2) ∧ (x2 ≤ (65536 : Int)))))) : ((x1 ≤ x1) ∧ (x1 ≤ x2)) := by omega
theorem q_688 {x0 : Int} (h0 : (((0 : Int) ≤ x0) ∧ (x0 ≤ (3 : Int)))) : (((0 : Int) ≤ x0) ∧ (x0 ≤ (20 : Int))) := by omega
theorem q_689 {x0 x1 x2 : Int} : (((9 : Int) ≠ (0 : Int)) ∨ (((x0 + (4 : Int)) ≤ x1) ∧ (x1 ≤ x2))) := by omega
theorem q_690 : (((0 : Int) ≤ (9 : Int)) ∧ ((9 : Int) ≤ (20 : Int))) := by omega
theorem q_691 {x0 x1 x2 x3 x4 x5 x6 : Int} (h0 : (x0 < x1)) (h1 : (((0 : Int) ≤ x2) ∧ ((x2 ≤ x1) ∧ ((x1 ≤ x3) ∧ (x3 ≤ (65536 : Int)))))) (h2 : (x2 ≤ x0)) (h3 : (x4 = (x5 + (x0 - x2)))) (h4 : (x5 = x6)) (h5 : (((0 : Int) ≤ x6) ∧ (x6 ≤ (65536 : Int)))) : (((0 : Int) ≤ x4) ∧ ((x4 + (x3 - x1)) ≤ (131072 : Int))) := by omega
theorem q_692 {x0 x1 x2 x3 x4 x5 x6 x7 x8 : Int} (h0 : (x0 < x1)) (h1 : (((0 : Int) ≤ x2) ∧ ((x2 ≤ x1) ∧ ((x1 ≤ x3) ∧ (x3 ≤ (65536 : Int)))))) (h2 : (x2 ≤ x0)) (h3 : (x4 = (x5 + (x0 - x2)))) (h4 : (x4 ≤ x6)) (h5 : (x7 = (x1 + (x6 - x4)))) (h6 : (x5 = x8)) (h7 : (((0 : Int) ≤ x8) ∧ (x8 ≤ (65536 : Int)))) (h8 : (((0 : Int) ≤ x7) ∧ (x7 ≤ (65536 : Int)))) : (((0 : Int) ≤ x6) ∧ (x6 < ((131072 : Nat) : Int))) := by omega
theorem q_693 {x0 x1 x2 x3 x4 x5 x6 x7 x8 : Int} (h0 : (x0 < x1)) (h1 : (((0 : Int) ≤ x2) ∧ ((x2 ≤ x1) ∧ ((x1 ≤ x3) ∧ (x3 ≤ (65536 : Int)))))) (h2 : (x4 = (x5 + (x0 - x2)))) (h3 : (inr x6)) (h4 : (x7 = (x1 + (x6 - x4)))) (h5 : (x5 = x8)) (h6 : (((0 : Int) ≤ x8) ∧ (x8 ≤ (65536 : Int)))) (h7 : (((0 : Int) ≤ x7) ∧ (x7 ≤ (65536 : Int)))) : (inr (x6 + (1 : Int))) := by omega
theorem q_694 {x0 x1 x2 x3 : Int} (h0 : (x0 < x1)) (h1 : (((0 : Int) ≤ x2) ∧ ((x2 ≤ x1) ∧ ((x1 ≤ x3) ∧ (x3 ≤ (65536 : Int)))))) (h2 : (x2 ≤ x0)) (h3 : (((0 : Int) ≤ x1) ∧ (x1 ≤ (65536 : Int)))) : (((0 : Int) ≤ x0) ∧ (x0 < ((65536 : Nat) : Int))) := by omega
theorem q_695 {x0 x1 x2 x3 x4 x5 x6 : Int} (h0 : (x0 < x1)) (h1 : (((0 : Int) ≤ x2) ∧ ((x2 ≤ x1) ∧ ((x1 ≤ x3) ∧ (x3 ≤ (65536 : Int)))))) (h2 : (x2 ≤ x0)) (h3 : (x4 = (x5 + (x0 - x2)))) (h4 : (x5 = x6)) (h5 : (((0 : Int) ≤ x6) ∧ (x6 ≤ (65536 : Int)))) (h6 : (((0 : Int) ≤ x1) ∧ (x1 ≤ (65536 : Int)))) : (((0 : Int) ≤ x4) ∧ (x4 < ((131072 : Nat) : Int))) := by omega
theorem q_696 {x0 x1 x2 x3 x4 x5 x6 : Int} (h0 : (x0 < x1)) (h1 : (((0 : Int) ≤ x2) ∧ ((x2 ≤ x1) ∧ ((x1 ≤ x3) ∧ (x3 ≤ (65536 : Int)))))) (h2 : (x4 = (x5 + (x0 - x2)))) (h3 : (x5 = x6)) (h4 : (((0 : Int) ≤ x6) ∧ (x6 ≤ (65536 : Int)))) (h5 : (((-(2147483648 : Int)) ≤ x4) ∧ (x4 ≤ (2147483647 : Int)))) (h6 : (((0 : Int) ≤ x1) ∧ (x1 ≤ (65536 : Int)))) : (((-(2147483648 : Int)) ≤ (x4 + (1 : Int))) ∧ ((x4 + (1 : Int)) ≤ (2147483647 : Int))) := by omega
theorem q_697 {x0 x1 x2 x3 : Int} (h0 : (x0 = (0 : Int))) (h1 : (x1 = x0)) : (((x2 + (1 : Int)) = x3) ∨ (x1 = (0 : Int))) := by omega
theorem q_698 {x0 x1 : Int} (h0 : (x0 < x1)) (h1 : (inr x0)) (h2 : (((0 : Int) ≤ x1) ∧ (x1 ≤ (65536 : Int)))) : (inr (x0 + (1 : Int))) := by omega
theorem q_699 {x0 x1 x2 : Int} (h0 : (((0 : Int) ≤ x0) ∧ ((x0 ≤ x1) ∧ ((x1 ≤ x2) ∧ (x2 ≤ (65536 : Int)))))) (h1 : (((0 : Int) ≤ x1) ∧ (x1 ≤ (65536 : Int)))) : (inrJ (x2 - x1)) := by omega
theorem q_700 {x0 x1 : Int} : (x0 = (x0 + ((x1 + (4 : Int)) - (x1 + (4 : Int))))) := by omega
theorem q_701 {x0 x1 : Int} : (((x0 + (4 : Int)) ≤ (x0 + (4 : Int))) ∨ ((x0 + (4 : Int)) ≤ ((x0 + (4 : Int)) + x1))) := by omega
theorem q_702 {x0 : Int} : ((x0 + (4 : Int)) ≤ (x0 + (4 : Int))) := by omega
theorem q_703 {x0 x1 x2 x3 x4 : Int} (h0 : (x0 < ((x1 + (4 : Int)) + x2))) (h1 : (((0 : Int) ≤ x1) ∧ (x1 ≤ x3))) (h2 : ((x1 + (4 : Int)) ≤ x0)) (h3 : ((((x1 + (4 : Int)) + x2) ≤ x4) ∧ (x4 ≤ x3))) (h4 : (((0 : Int) ≤ x3) ∧ (x3 ≤ (65536 : Int)))) : (((0 : Int) ≤ x0) ∧ (x0 < ((65536 : Nat) : Int))) := by omega
theorem q_704 {x0 x1 x2 x3 : Int} (h0 : (x0 = (x1 + (x2 - (x3 + (4 : Int)))))) : ((x0 + (1 : Int)) = (x1 + ((x2 + (1 : Int)) - (x3 + (4 : Int))))) := by omega
theorem q_705 {x0 x1 x2 : Int} (h0 : (x0 < ((x1 + (4 : Int)) + x2))) : (((x0 + (1 : Int)) ≤ (x1 + (4 : Int))) ∨ ((x0 + (1 : Int)) ≤ ((x1 + (4 : Int)) + x2))) := by omega
theorem q_706 {x0 x1 : Int} (h0 : ((x0 + (4 : Int)) ≤ x1)) : ((x0 + (4 : Int)) ≤ (x1 + (1 : Int))) := by omega
theorem q_707 {x0 x1 x2 x3 x4 : Int} (h0 : (x0 < ((x1 + (4 : Int)) + x2))) (h1 : (inr x0)) (h2 : ((((x1 + (4 : Int)) + x2) ≤ x3) ∧ (x3 ≤ x4))) (h3 : (((0 : Int) ≤ x4) ∧ (x4 ≤ (65536 : Int)))) : (inr (x0 + (1 : Int))) := by omega
theorem q_708 {x0 x1 x2 : Int} : ((((x0 + (4 : Int)) + x1) - (x2 + (1 : Int))) < (((x0 + (4 : Int)) + x1) - x2)) := by omega
theorem q_709 {x0 x1 x2 : Int} (h0 : (x0 < ((x1 + (4 : Int)) + x2))) : ((0 : Int) < (((x1 + (4 : Int)) + x2) - x0)) := by omega
theorem q_710 {x0 x1 x2 x3 x4 : Int} (h0 : (((0 : Int) ≤ x0) ∧ (x0 ≤ x1))) (h1 : ((x0 + (4 : Int)) ≤ x1)) (h2 : (((0 : Int) ≤ x2) ∧ ((x2 ≤ x3) ∧ ((x3 ≤ x4) ∧ (x4 ≤ (65536 : Int)))))) (h3 : (((0 : Int) ≤ x1) ∧ (x1 ≤ (65536 : Int)))) (h4 : (((0 : Int) ≤ x3) ∧ (x3 ≤ (65536 : Int)))) : (inr ((x0 + (4 : Int)) + (x4 - x3))) := by omega
theorem q_711 {x0 x1 x2 x3 : Int} (h0 : (x0 = (3 : Int))) : ((x0 ≠ (0 : Int)) ∨ (((x1 + (4 : Int)) ≤ x2) ∧ (x2 ≤ x3))) := by omega
theorem q_712 {x0 : Int} (h0 : (x0 = (3 : Int))) : (((0 : Int) ≤ x0) ∧ (x0 ≤ (20 : Int))) := by omega
theorem q_713 : (((0 : Int) ≤ (4 : Int)) ∧ ((4 : Int) ≤ (65536 : Int))) := by omega
theorem q_714 {x0 x1 x2 x3 : Int} (h0 : (x0 = (8 : Int))) : ((x0 ≠ (0 : Int)) ∨ (((x1 + (4 : Int)) ≤ ((x1 + (4 : Int)) + x2)) ∧ (((x1 + (4 : Int)) + x2) ≤ x3))) := by omega
theorem q_715 {x0 : Int} (h0 : (x0 = (8 : Int))) : (((0 : Int) ≤ x0) ∧ (x0 ≤ (20 : Int))) := by omega
theorem q_716 {x0 x1 x2 x3 : Int} (h0 : (x0 = (1 : Int))) : ((x0 ≠ (0 : Int)) ∨ (((x1 + (4 : Int)) ≤ ((x1 + (4 : Int)) + x2)) ∧ (((x1 + (4 : Int)) + x2) ≤ x3))) := by omega
theorem q_717 {x0 : Int} (h0 : (x0 = (1 : Int))) : (((0 : Int) ≤ x0) ∧ (x0 ≤ (20 : Int))) := by omega
theorem q_718 {x0 x1 x2 : Int} (h0 : (x0 = (1 : Int))) : ((x0 ≠ (0 : Int)) ∨ (((x1 + (4 : Int)) ≤ (x1 + (4 : Int))) ∧ ((x1 + (4 : Int)) ≤ x2))) := by omega
theorem q_719 {x0 x1 x2 : Int} (h0 : (x0 = (7 : Int))) : ((x0 ≠ (0 : Int)) ∨ (((x1 + (4 : Int)) ≤ x1) ∧ (x1 ≤ x2))) := by omega
theorem q_720 {x0 : Int} (h0 : (x0 = (7 : Int))) : (((0 : Int) ≤ x0) ∧ (x0 ≤ (20 : Int))) := by omega
theorem q_721 : (inrJ (2147483648 : Int)) := by omega
theorem q_722 {x0 x1 : Int} (h0 : (((0 : Int) ≤ x0) ∧ (x0 ≤ x1))) (h1 : (((0 : Int) ≤ x1) ∧ (x1 ≤ (65536 : Int)))) : (((0 : Int) ≤ x0) ∧ (x0 ≤ (70000 : Int))) := by omega
theorem q_723 : (((0 : Int) ≤ (1 : Int)) ∧ ((1 : Int) ≤ (65536 : Int))) := by omega
theorem q_724 {x0 x1 : Int} (h0 : (((0 : Int) ≤ x0) ∧ (x0 ≤ x1))) (h1 : ((4 : Int) ≤ x0)) (h2 : (((0 : Int) ≤ x1) ∧ (x1 ≤ (65536 : Int)))) : (((-(2147483648 : Int)) ≤ (x0 + (1 : Int))) ∧ ((x0 + (1 : Int)) ≤ (2147483647 : Int))) := by omega
theorem q_725 {x0 x1 : Int} (h0 : (((0 : Int) ≤ x0) ∧ (x0 ≤ x1))) (h1 : ((4 : Int) ≤ x0)) (h2 : (((0 : Int) ≤ x1) ∧ (x1 ≤ (65536 : Int)))) : (((0 : Int) ≤ (x0 + (1 : Int))) ∧ ((x0 + (1 : Int)) ≤ (70000 : Int))) := by omega
theorem q_726 {x0 x1 : Int} (h0 : (((0 : Int) ≤ x0) ∧ (x0 ≤ x1))) (h1 : ((4 : Int) ≤ x0)) (h2 : (((0 : Int) ≤ x1) ∧ (x1 ≤ (65536 : Int)))) : (inr (x0 + (1 : Int))) := by omega
theorem q_727 : (inr (5 : Int)) := by omega
theorem q_728 {x0 x1 x2 : Int} (h0 : (x0 = (5 : Int))) : ((x0 ≠ (0 : Int)) ∨ ((x1 ≤ (x1 + (1 : Int))) ∧ ((x1 + (1 : Int)) ≤ x2))) := by omega
theorem q_729 {x0 x1 : Int} (h0 : (((0 : Int) ≤ x0) ∧ ((x0 ≤ (65536 : Int)) ∧ (x1 ≤ x0)))) : (x1 ≤ x0) := by omega
theorem q_730 {x0 : Int} (h0 : (x0 = (5 : Int))) : (((0 : Int) ≤ x0) ∧ (x0 ≤ (20 : Int))) := by omega
theorem q_731 {x0 x1 : Int} (h0 : (((0 : Int) ≤ x0) ∧ (x0 ≤ x1))) (h1 : ((4 : Int) ≤ x0)) (h2 : (((0 : Int) ≤ x1) ∧ (x1 ≤ (65536 : Int)))) : (((-(2147483648 : Int)) ≤ ((x0 + (1 : Int)) + (1 : Int))) ∧ (((x0 + (1 : Int)) + (1 : Int)) ≤ (2147483647 : Int))) := by omega
theorem q_732 {x0 x1 x2 : Int} (h0 : (((0 : Int) ≤ x0) ∧ (x0 ≤ x1))) (h1 : ((4 : Int) ≤ x0)) (h2 : ((((x0 + (1 : Int)) + (1 : Int)) ≤ x2) ∧ (x2 ≤ (((x0 + (1 : Int)) + (1 : Int)) + (12 : Int))))) (h3 : (((0 : Int) ≤ x1) ∧ (x1 ≤ (65536 : Int)))) : (((0 : Int) ≤ x2) ∧ (x2 ≤ (70000 : Int))) := by omega
theorem q_733 {x0 : Int} (h0 : ((4 : Int) ≤ x0)) (h1 : (((-(2147483648 : Int)) ≤ x0) ∧ (x0 ≤ (2147483647 : Int)))) : (inr x0) := by omega
theorem q_734 {x0 x1 x2 : Int} (h0 : (((0 : Int) ≤ x0) ∧ (x0 ≤ x1))) (h1 : ((((x0 + (1 : Int)) + (1 : Int)) ≤ x2) ∧ (x2 ≤ (((x0 + (1 : Int)) + (1 : Int)) + (12 : Int))))) (h2 : (((0 : Int) ≤ x1) ∧ (x1 ≤ (65536 : Int)))) (h3 : (((-(2147483648 : Int)) ≤ x2) ∧ (x2 ≤ (2147483647 : Int)))) : (((-(2147483648 : Int)) ≤ (x2 + (1 : Int))) ∧ ((x2 + (1 : Int)) ≤ (2147483647 : Int))) := by omega
theorem q_735 {x0 x1 : Int} (h0 : (((0 : Int) ≤ x0) ∧ ((x0 ≤ (65536 : Int)) ∧ (x1 ≤ x0)))) : ((x1 ≤ x1) ∧ (x1 ≤ x0)) := by omega
theorem q_736 {x0 x1 x2 : Int} (h0 : ((((x0 + (1 : Int)) + (1 : Int)) ≤ x1) ∧ (x1 ≤ x2))) : (((0 : Int) ≠ (0 : Int)) ∨ ((x0 ≤ x1) ∧ (x1 ≤ x2))) := by omega
theorem q_737 {x0 x1 x2 : Int} (h0 : ((x0 ≤ x1) ∧ (x1 ≤ x2))) : (x1 ≤ x2) := by omega
theorem q_738 {x0 x1 : Int} (h0 : (((0 : Int) ≤ x0) ∧ (x0 ≤ x1))) (h1 : ((4 : Int) ≤ x0)) (h2 : (((0 : Int) ≤ x1) ∧ (x1 ≤ (65536 : Int)))) : (inr ((x0 + (1 : Int)) + (1 : Int))) := by omega
theorem q_739 {x0 x1 x2 : Int} (h0 : ((x0 ≤ x1) ∧ (x1 ≤ x2))) (h1 : (((0 : Int) ≤ x0) ∧ (x0 ≤ (65536 : Int)))) (h2 : (((0 : Int) ≤ x1) ∧ (x1 ≤ (65536 : Int)))) : (inr (x1 - x0)) := by omega
theorem q_740 {x0 x1 x2 : Int} (h0 : ((x0 ≤ x1) ∧ (x1 ≤ x2))) (h1 : (((0 : Int) ≤ x0) ∧ (x0 ≤ (65536 : Int)))) (h2 : (((0 : Int) ≤ x1) ∧ (x1 ≤ (65536 : Int)))) : (inrJ (x1 - x0)) := by omega
theorem q_741 {x0 x1 x2 x3 : Int} (h0 : (x0 = (11 : Int))) : ((x0 ≠ (0 : Int)) ∨ ((x1 ≤ x2) ∧ (x2 ≤ x3))) := by omega
theorem q_742 {x0 : Int} (h0 : (x0 = (11 : Int))) : (((0 : Int) ≤ x0) ∧ (x0 ≤ (20 : Int))) := by omega
theorem q_743 {x0 x1 x2 : Int} (h0 : ((4 : Int) ≤ x0)) (h1 : ((((x0 + (1 : Int)) + (1 : Int)) ≤ x1) ∧ (x1 ≤ x2))) (h2 : (((0 : Int) ≤ x2) ∧ (x2 ≤ (65536 : Int)))) : (((0 : Int) ≤ x1) ∧ (x1 ≤ (70000 : Int))) := by omega
theorem q_744 {x0 x1 x2 : Int} (h0 : ((x0 ≤ x1) ∧ (x1 ≤ x2))) (h1 : (((0 : Int) ≤ x0) ∧ (x0 ≤ (65536 : Int)))) (h2 : (((0 : Int) ≤ x1) ∧ (x1 ≤ (65536 : Int)))) : (((0 : Int) ≤ x0) ∧ ((x0 ≤ x1) ∧ (x1 ≤ (65536 : Int)))) := by omega
theorem q_745 {x0 x1 x2 : Int} (h0 : ((((x0 + (1 : Int)) + (1 : Int)) ≤ x1) ∧ (x1 ≤ x2))) (h1 : (((0 : Int) ≤ x2) ∧ (x2 ≤ (65536 : Int)))) (h2 : (((-(2147483648 : Int)) ≤ x1) ∧ (x1 ≤ (2147483647 : Int)))) : (((-(2147483648 : Int)) ≤ (x1 + (4 : Int))) ∧ ((x1 + (4 : Int)) ≤ (2147483647 : Int))) := by omega
theorem q_746 : (inr (10 : Int)) := by omega
theorem q_747 {x0 x1 x2 x3 : Int} (h0 : (x0 = (10 : Int))) : ((x0 ≠ (0 : Int)) ∨ ((x1 ≤ x2) ∧ (x2 ≤ x3))) := by omega
theorem q_748 {x0 : Int} (h0 : (x0 = (10 : Int))) : (((0 : Int) ≤ x0) ∧ (x0 ≤ (20 : Int))) := by omega
theorem q_749 {x0 x1 x2 x3 : Int} (h0 : (x0 = (1 : Int))) : ((x0 ≠ (0 : Int)) ∨ ((x1 ≤ x2) ∧ (x2 ≤ x3))) := by omega
theorem q_750 {x0 : Int} (h0 : (x0 = (0 : Int))) : ((x0 = (0 : Int)) ∨ (x0 = (1 : Int))) := by omega
theorem q_751 {x0 : Int} (h0 : ((x0 / (16 : Int)) ≤ (7 : Int))) (h1 : (((0 : Int) ≤ x0) ∧ (x0 ≤ (255 : Int)))) : (((0 : Int) ≤ ((8 : Int) + ((2 : Int) * (x0 / (16 : Int))))) ∧ (((8 : Int) + ((2 : Int) * (x0 / (16 : Int)))) ≤ (31 : Int))) := by omega
theorem q_752 {x0 x1 x2 : Int} (h0 : (((0 : Int) ≤ x0) ∧ ((x0 ≤ (65536 : Int)) ∧ (x1 ≤ x0)))) (h1 : ((x1 ≤ x2) ∧ (x2 ≤ x0))) (h2 : (((0 : Int) ≤ x1) ∧ (x1 ≤ (65536 : Int)))) : (((0 : Int) ≤ x1) ∧ ((x1 ≤ x2) ∧ ((x2 ≤ x0) ∧ (x0 ≤ (65536 : Int))))) := by omega
theorem q_753 {x0 x1 x2 : Int} (h0 : ((4 : Int) ≤ x0)) (h1 : ((((x0 + (1 : Int)) + (1 : Int)) ≤ x1) ∧ (x1 ≤ x2))) : (((0 : Int) ≤ x1) ∧ (x1 ≤ x2)) := by omega
theorem q_754 {x0 x1 x2 x3 : Int} (h0 : ((x0 ≤ x1) ∧ (x1 ≤ x2))) (h1 : ((x1 ≤ x3) ∧ (x3 ≤ x2))) : ((x0 ≤ x3) ∧ (x3 ≤ x2)) := by omega
theorem q_755 {x0 x1 x2 x3 : Int} (h0 : ((0 : Int) < x0)) : ((x0 ≠ (0 : Int)) ∨ ((x1 ≤ x2) ∧ (x2 ≤ x3))) := by omega
theorem q_756 : (inr (6 : Int)) := by omega
theorem q_757 {x0 x1 x2 x3 : Int} (h0 : (x0 = (6 : Int))) : ((x0 ≠ (0 : Int)) ∨ ((x1 ≤ x2) ∧ (x2 ≤ x3))) := by omega
theorem q_758 {x0 : Int} (h0 : (x0 = (6 : Int))) : (((0 : Int) ≤ x0) ∧ (x0 ≤ (20 : Int))) := by omega
theorem q_759 {x0 x1 : Int} (h0 : ((((x0 + (1 : Int)) + (1 : Int)) ≤ x1) ∧ (x1 ≤ (((x0 + (1 : Int)) + (1 : Int)) + (8 : Int))))) : ((((x0 + (1 : Int)) + (1 : Int)) ≤ x1) ∧ (x1 ≤ (((x0 + (1 : Int)) + (1 : Int)) + (12 : Int)))) := by omega
theorem q_760 {x0 x1 x2 : Int} (h0 : (((0 : Int) ≤ x0) ∧ (x0 ≤ x1))) (h1 : ((((x0 + (1 : Int)) + (1 : Int)) ≤ x2) ∧ (x2 ≤ (((x0 + (1 : Int)) + (1 : Int)) + (8 : Int))))) (h2 : (((0 : Int) ≤ x1) ∧ (x1 ≤ (65536 : Int)))) (h3 : (((-(2147483648 : Int)) ≤ x2) ∧ (x2 ≤ (2147483647 : Int)))) : (((-(2147483648 : Int)) ≤ (x2 + (4 : Int))) ∧ ((x2 + (4 : Int)) ≤ (2147483647 : Int))) := by omega
theorem q_761 {x0 x1 : Int} (h0 : ((((x0 + (1 : Int)) + (1 : Int)) ≤ x1) ∧ (x1 ≤ (((x0 + (1 : Int)) + (1 : Int)) + (8 : Int))))) : ((((x0 + (1 : Int)) + (1 : Int)) ≤ (x1 + (4 : Int))) ∧ ((x1 + (4 : Int)) ≤ (((x0 + (1 : Int)) + (1 : Int)) + (12 : Int)))) := by omega
theorem q_762 {x0 x1 x2 : Int} (h0 : (x0 = (0 : Int))) (h1 : (x1 = x0)) : ((x1 = (0 : Int)) ∨ ((((x2 + (1 : Int)) + (1 : Int)) + (8 : Int)) ≤ ((x2 + (1 : Int)) + (1 : Int)))) := by omega
theorem q_763 {x0 : Int} : ((((x0 + (1 : Int)) + (1 : Int)) ≤ ((x0 + (1 : Int)) + (1 : Int))) ∧ (((x0 + (1 : Int)) + (1 : Int)) ≤ (((x0 + (1 : Int)) + (1 : Int)) + (8 : Int)))) := by omega
theorem q_764 {x0 x1 : Int} (h0 : (((0 : Int) ≤ x0) ∧ (x0 ≤ x1))) (h1 : ((4 : Int) ≤ x0)) (h2 : (((0 : Int) ≤ x1) ∧ (x1 ≤ (65536 : Int)))) : (((-(2147483648 : Int)) ≤ (((x0 + (1 : Int)) + (1 : Int)) + (8 : Int))) ∧ ((((x0 + (1 : Int)) + (1 : Int)) + (8 : Int)) ≤ (2147483647 : Int))) := by omega
theorem q_765 {x0 x1 : Int} : ((x0 = (0 : Int)) ∨ ((((x1 + (1 : Int)) + (1 : Int)) + (8 : Int)) ≤ (((x1 + (1 : Int)) + (1 : Int)) + (8 : Int)))) := by omega
theorem q_766 {x0 : Int} : ((((x0 + (1 : Int)) + (1 : Int)) ≤ (((x0 + (1 : Int)) + (1 : Int)) + (8 : Int))) ∧ ((((x0 + (1 : Int)) + (1 : Int)) + (8 : Int)) ≤ (((x0 + (1 : Int)) + (1 : Int)) + (8 : Int)))) := by omega
theorem q_767 {x0 x1 x2 : Int} (h0 : (x0 = (1 : Int))) : ((x0 ≠ (0 : Int)) ∨ ((x1 ≤ (x1 + (1 : Int))) ∧ ((x1 + (1 : Int)) ≤ x2))) := by omega
theorem q_768 {x0 x1 x2 : Int} (h0 : (x0 = (5 : Int))) : ((x0 ≠ (0 : Int)) ∨ ((x1 ≤ x1) ∧ (x1 ≤ x2))) := by omega
theorem q_769 {x0 x1 x2 : Int} (h0 : (x0 = (1 : Int))) : ((x0 ≠ (0 : Int)) ∨ ((x1 ≤ x1) ∧ (x1 ≤ x2))) := by omega
theorem q_770 {x0 x1 : Int} (h0 : (((0 : Int) ≤ x0) ∧ (x0 ≤ x1))) (h1 : (x0 < x1)) (h2 : (((0 : Int) ≤ x1) ∧ (x1 ≤ (65536 : Int)))) : (((0 : Int) ≤ x0) ∧ (x0 ≤ (70000 : Int))) := by omega
theorem q_771 : (inrJ (407710288 : Int)) := by omega
theorem q_772 {x0 x1 : Int} (h0 : (((0 : Int) ≤ x0) ∧ (x0 ≤ x1))) (h1 : (x0 < x1)) (h2 : (((0 : Int) ≤ x1) ∧ (x1 ≤ (65536 : Int)))) : (((-(2147483648 : Int)) ≤ (x0 + (4 : Int))) ∧ ((x0 + (4 : Int)) ≤ (2147483647 : Int))) := by omega
theorem q_773 {x0 x1 : Int} (h0 : (((0 : Int) ≤ x0) ∧ (x0 ≤ x1))) : ((4 : Int) ≤ (x0 + (4 : Int))) := by omega
theorem q_774 {x0 x1 x2 : Int} (h0 : (x0 = (4 : Int))) : ((x0 ≠ (0 : Int)) ∨ (((x1 + (4 : Int)) ≤ x1) ∧ (x1 ≤ x2))) := by omega
theorem q_775 {x0 : Int} (h0 : (x0 = (4 : Int))) : (((0 : Int) ≤ x0) ∧ (x0 ≤ (20 : Int))) := by omega
theorem q_776 : (inrJ (407710303 : Int)) := by omega
theorem q_777 {x0 x1 : Int} (h0 : (((0 : Int) ≤ x0) ∧ (x0 ≤ x1))) (h1 : (x0 < x1)) (h2 : (((0 : Int) ≤ x1) ∧ (x1 ≤ (65536 : Int)))) : (((0 : Int) ≤ (x0 + (4 : Int))) ∧ ((x0 + (4 : Int)) ≤ (70000 : Int))) := by omega
theorem q_778 {x0 x1 : Int} (h0 : (((0 : Int) ≤ x0) ∧ (x0 ≤ x1))) (h1 : (x0 < x1)) (h2 : (((0 : Int) ≤ x1) ∧ (x1 ≤ (65536 : Int)))) : (inr (x0 + (4 : Int))) := by omega
theorem q_779 {x0 x1 : Int} (h0 : (((0 : Int) ≤ x0) ∧ (x0 ≤ x1))) (h1 : (x0 < x1)) (h2 : (((0 : Int) ≤ x1) ∧ (x1 ≤ (65536 : Int)))) : (((-(2147483648 : Int)) ≤ ((x0 + (4 : Int)) + (4 : Int))) ∧ (((x0 + (4 : Int)) + (4 : Int)) ≤ (2147483647 : Int))) := by omega
theorem q_780 {x0 x1 : Int} (h0 : (((0 : Int) ≤ x0) ∧ (x0 ≤ x1))) (h1 : (x0 < x1)) (h2 : (((0 : Int) ≤ x1) ∧ (x1 ≤ (65536 : Int)))) : (inr (x1 - ((x0 + (4 : Int)) + (4 : Int)))) := by omega
theorem q_781 {x0 x1 : Int} (h0 : (((0 : Int) ≤ x0) ∧ (x0 ≤ x1))) (h1 : (x0 < x1)) (h2 : (((0 : Int) ≤ x1) ∧ (x1 ≤ (65536 : Int)))) : (inrJ (x1 - ((x0 + (4 : Int)) + (4 : Int)))) := by omega
theorem q_782 {x0 x1 x2 : Int} (h0 : (x0 = (1 : Int))) : ((x0 ≠ (0 : Int)) ∨ (((x1 + (4 : Int)) ≤ ((x1 + (4 : Int)) + (4 : Int))) ∧ (((x1 + (4 : Int)) + (4 : Int)) ≤ x2))) := by omega
theorem q_783 {x0 x1 x2 : Int} (h0 : (x0 = (1 : Int))) : ((x0 ≠ (0 : Int)) ∨ (((x1 + (4 : Int)) ≤ x1) ∧ (x1 ≤ x2))) := by omega
theorem q_784 : (inr (-(12 : Int))) := by omega
theorem q_785 {x0 : Int} (h0 : (((0 : Int) ≤ x0) ∧ (x0 ≤ (65536 : Int)))) : (((0 : Int) ≠ (0 : Int)) ∨ (((0 : Int) ≤ (0 : Int)) ∧ ((0 : Int) ≤ x0))) := by omega
theorem q_786 {x0 : Int} (h0 : (x0 ≤ (0 : Int))) (h1 : (((0 : Int) ≤ x0) ∧ (x0 ≤ (20 : Int)))) : (x0 = (0 : Int)) := by omega
theorem q_787 {x0 : Int} (h0 : (((0 : Int) ≤ x0) ∧ (x0 ≤ (65536 : Int)))) : (((0 : Int) ≤ x0) ∧ (x0 ≤ (100000000 : Int))) := by omega
theorem q_788 {x0 : Int} (h0 : ((0 : Int) < x0)) (h1 : (((0 : Int) ≤ x0) ∧ (x0 ≤ (20 : Int)))) : (inr (-x0)) := by omega
theorem q_789 {x0 x1 : Int} (h0 : ((0 : Int) ≤ x0)) (h1 : (x0 ≤ (65536 : Int))) (h2 : (x1 ≤ x0)) : (((0 : Int) ≤ x0) ∧ ((x0 ≤ (65536 : Int)) ∧ (x1 ≤ x0))) := by omega
theorem q_790 {x0 x1 x2 x3 : Int} (h0 : ((32 : Int) ≤ (x0 - x1))) (h1 : (((0 : Int) ≤ x2) ∧ ((x2 ≤ x0) ∧ ((x0 ≤ (65536 : Int)) ∧ (((0 : Int) ≤ x3) ∧ (x3 ≤ (3 : Int))))))) (h2 : ((x2 ≤ x1) ∧ (x1 ≤ x0))) : (((0 : Int) ≤ (x1 + ((8 : Int) * x3))) ∧ (((0 : Int) ≤ (8 : Int)) ∧ (((8 : Int) ≤ (8 : Int)) ∧ (((x1 + ((8 : Int) * x3)) + (8 : Int)) ≤ (65536 : Int))))) := by omega
theorem q_791 {x0 x1 x2 x3 : Int} (h0 : ((32 : Int) ≤ (x0 - x1))) (h1 : (((0 : Int) ≤ x2) ∧ ((x2 ≤ x0) ∧ ((x0 ≤ (65536 : Int)) ∧ (((0 : Int) ≤ x3) ∧ (x3 ≤ (3 : Int))))))) (h2 : ((x2 ≤ x1) ∧ (x1 ≤ x0))) : (inr (x1 + ((8 : Int) * x3))) := by omega
theorem q_792 {x0 x1 x2 : Int} (h0 : ((32 : Int) ≤ (x0 - x1))) (h1 : ((x2 ≤ x1) ∧ (x1 ≤ x0))) : ((x2 ≤ (x1 + (32 : Int))) ∧ ((x1 + (32 : Int)) ≤ x0)) := by omega
theorem q_793 {x0 x1 x2 x3 : Int} (h0 : ((32 : Int) ≤ (x0 - x1))) (h1 : (((0 : Int) ≤ x2) ∧ ((x2 ≤ x0) ∧ ((x0 ≤ (65536 : Int)) ∧ (((0 : Int) ≤ x3) ∧ (x3 ≤ (3 : Int))))))) (h2 : (inr x1)) : (inr (x1 + (32 : Int))) := by omega
theorem q_794 {x0 x1 : Int} : ((x0 - (x1 + (32 : Int))) < (x0 - x1)) := by omega
theorem q_795 {x0 x1 : Int} (h0 : ((32 : Int) ≤ (x0 - x1))) : ((0 : Int) < (x0 - x1)) := by omega
theorem q_796 {x0 x1 : Int} (h0 : (((0 : Int) ≤ x0) ∧ ((x0 ≤ x1) ∧ (x1 ≤ (65536 : Int))))) : (((0 : Int) ≤ x0) ∧ ((x0 ≤ x1) ∧ ((x1 ≤ (65536 : Int)) ∧ (((0 : Int) ≤ (0 : Int)) ∧ ((0 : Int) ≤ (3 : Int)))))) := by omega
theorem q_797 {x0 x1 : Int} (h0 : (((0 : Int) ≤ x0) ∧ ((x0 ≤ x1) ∧ (x1 ≤ (65536 : Int))))) : (((0 : Int) ≤ x0) ∧ ((x0 ≤ x1) ∧ ((x1 ≤ (65536 : Int)) ∧ (((0 : Int) ≤ (1 : Int)) ∧ ((1 : Int) ≤ (3 : Int)))))) := by omega
theorem q_798 {x0 x1 : Int} (h0 : (((0 : Int) ≤ x0) ∧ ((x0 ≤ x1) ∧ (x1 ≤ (65536 : Int))))) : (((0 : Int) ≤ x0) ∧ ((x0 ≤ x1) ∧ ((x1 ≤ (65536 : Int)) ∧ (((0 : Int) ≤ (2 : Int)) ∧ ((2 : Int) ≤ (3 : Int)))))) := by omega
theorem q_799 {x0 x1 : Int} (h0 : (((0 : Int) ≤ x0) ∧ ((x0 ≤ x1) ∧ (x1 ≤ (65536 : Int))))) : (((0 : Int) ≤ x0) ∧ ((x0 ≤ x1) ∧ ((x1 ≤ (65536 : Int)) ∧ (((0 : Int) ≤ (3 : Int)) ∧ ((3 : Int) ≤ (3 : Int)))))) := by omega
theorem q_800 : (((0 : Int) ≤ (1 : Int)) ∧ ((1 : Int) ≤ (64 : Int))) := by omega
theorem q_801 : (((0 : Int) ≤ (7 : Int)) ∧ ((7 : Int) ≤ (64 : Int))) := by omega
theorem q_802 : (((0 : Int) ≤ (12 : Int)) ∧ ((12 : Int) ≤ (64 : Int))) := by omega
theorem q_803 : (((0 : Int) ≤ (18 : Int)) ∧ ((18 : Int) ≤ (64 : Int))) := by omega
theorem q_804 {x0 x1 x2 x3 x4 : Int} (h0 : (x0 < x1)) (h1 : (((0 : Int) ≤ x2) ∧ (x2 ≤ (196608 : Int)))) (h2 : (((0 : Int) ≤ x3) ∧ ((x3 ≤ x1) ∧ (x1 ≤ (65536 : Int))))) (h3 : ((x3 ≤ x4) ∧ (x4 ≤ x1))) (h4 : (x4 ≤ x0)) : (((0 : Int) ≤ (x2 + x0)) ∧ (((x2 + x0) < (262144 : Int)) ∧ (((0 : Int) ≤ x2) ∧ (x2 ≤ (262144 : Int))))) := by omega
theorem q_805 : (((0 : Int) ≤ (11 : Int)) ∧ ((11 : Int) ≤ (32 : Int))) := by omega
theorem q_806 {x0 x1 x2 : Int} (h0 : ((3 : Int) ≤ x0)) : ((x0 ≥ (3 : Int)) ∨ ((x0 < (3 : Int)) ∧ ((x1 - x2) < (4 : Int)))) := by omega
theorem q_807 {x0 x1 x2 : Int} (h0 : (x0 < (3 : Int))) (h1 : ((x1 - x2) < (4 : Int))) : ((x0 ≥ (3 : Int)) ∨ ((x0 < (3 : Int)) ∧ ((x1 - x2) < (4 : Int)))) := by omega
theorem q_808 {x0 x1 x2 : Int} (h0 : ((4 : Int) ≤ (x0 - x1))) (h1 : (((0 : Int) ≤ x2) ∧ ((x2 ≤ x0) ∧ (x0 ≤ (65536 : Int))))) (h2 : ((x2 ≤ x1) ∧ (x1 ≤ x0))) : (((0 : Int) ≤ x1) ∧ (((0 : Int) ≤ (4 : Int)) ∧ (((4 : Int) ≤ (8 : Int)) ∧ ((x1 + (4 : Int)) ≤ (65536 : Int))))) := by omega
theorem q_809 : (((0 : Int) ≤ (17 : Int)) ∧ ((17 : Int) ≤ (32 : Int))) := by omega
theorem q_810 {x0 x1 x2 : Int} (h0 : ((x0 - x1) ≤ ((15 : Int) - ((4 : Int) * x2)))) : ((x0 - (x1 + (4 : Int))) ≤ ((15 : Int) - ((4 : Int) * (x2 + (1 : Int))))) := by omega
theorem q_811 {x0 : Int} (h0 : (x0 < (3 : Int))) (h1 : (((0 : Int) ≤ x0) ∧ (x0 ≤ (3 : Int)))) : (((0 : Int) ≤ (x0 + (1 : Int))) ∧ ((x0 + (1 : Int)) ≤ (3 : Int))) := by omega
theorem q_812 {x0 : Int} (h0 : (x0 < (3 : Int))) (h1 : (((0 : Int) ≤ x0) ∧ (x0 ≤ (3 : Int)))) : (inr (x0 + (1 : Int))) := by omega
theorem q_813 {x0 : Int} : (((3 : Int) - (x0 + (1 : Int))) < ((3 : Int) - x0)) := by omega
theorem q_814 {x0 : Int} (h0 : (x0 < (3 : Int))) : ((0 : Int) < ((3 : Int) - x0)) := by omega
theorem q_815 : (((0 : Int) ≤ (1 : Int)) ∧ ((1 : Int) ≤ (32 : Int))) := by omega
theorem q_816 : (((0 : Int) ≤ (7 : Int)) ∧ ((7 : Int) ≤ (32 : Int))) := by omega
theorem q_817 : (((0 : Int) ≤ (12 : Int)) ∧ ((12 : Int) ≤ (32 : Int))) := by omega
theorem q_818 : (((0 : Int) ≤ (18 : Int)) ∧ ((18 : Int) ≤ (32 : Int))) := by omega
theorem q_819 {x0 x1 : Int} (h0 : ((16 : Int) ≤ (x0 - x1))) (h1 : (((0 : Int) ≤ x1) ∧ ((x1 ≤ x0) ∧ (x0 ≤ (65536 : Int))))) : ((inr (x0 - x1)) ∧ ((0 : Int) ≤ (x0 - x1))) := by omega
theorem q_820 {x0 x1 : Int} (h0 : ((16 : Int) ≤ (x0 - x1))) : ((x1 ≤ (x0 - ((x0 - x1) % (16 : Int)))) ∧ ((x0 - ((x0 - x1) % (16 : Int))) ≤ x0)) := by omega
theorem q_821 {x0 x1 : Int} (h0 : ((16 : Int) ≤ (x0 - x1))) (h1 : (((0 : Int) ≤ x1) ∧ ((x1 ≤ x0) ∧ (x0 ≤ (65536 : Int))))) : (inr (x0 - ((x0 - x1) % (16 : Int)))) := by omega
theorem q_822 {x0 x1 x2 : Int} (h0 : (x0 = (x1 - ((x1 - x2) % (32 : Int))))) : ((x1 - x0) ≤ ((31 : Int) - ((8 : Int) * (0 : Int)))) := by omega
theorem q_823 {x0 x1 x2 x3 x4 : Int} (h0 : (x0 < x1)) (h1 : (((0 : Int) ≤ x2) ∧ (x2 ≤ (196608 : Int)))) (h2 : (((0 : Int) ≤ x3) ∧ ((x3 ≤ x1) ∧ (x1 ≤ (65536 : Int))))) (h3 : (x4 ≤ x0)) (h4 : ((x3 ≤ x4) ∧ (x4 ≤ x1))) : (((0 : Int) ≤ (x2 + x0)) ∧ (((x2 + x0) < (262144 : Int)) ∧ (((0 : Int) ≤ x2) ∧ (x2 ≤ (262144 : Int))))) := by omega
theorem q_824 : (((0 : Int) ≤ (11 : Int)) ∧ ((11 : Int) ≤ (64 : Int))) := by omega
theorem q_825 : (((0 : Int) ≤ (23 : Int)) ∧ ((23 : Int) ≤ (64 : Int))) := by omega
theorem q_826 : (inr (23 : Int)) := by omega
theorem q_827 {x0 x1 x2 : Int} (h0 : ((3 : Int) ≤ x0)) : ((x0 ≥ (3 : Int)) ∨ ((x0 < (3 : Int)) ∧ ((x1 - x2) < (8 : Int)))) := by omega
theorem q_828 {x0 x1 x2 : Int} (h0 : (x0 < (3 : Int))) (h1 : ((x1 - x2) < (8 : Int))) : ((x0 ≥ (3 : Int)) ∨ ((x0 < (3 : Int)) ∧ ((x1 - x2) < (8 : Int)))) := by omega
theorem q_829 {x0 x1 x2 : Int} (h0 : ((8 : Int) ≤ (x0 - x1))) (h1 : (((0 : Int) ≤ x2) ∧ ((x2 ≤ x0) ∧ (x0 ≤ (65536 : Int))))) (h2 : ((x2 ≤ x1) ∧ (x1 ≤ x0))) : (((0 : Int) ≤ x1) ∧ (((0 : Int) ≤ (8 : Int)) ∧ (((8 : Int) ≤ (8 : Int)) ∧ ((x1 + (8 : Int)) ≤ (65536 : Int))))) := by omega
theorem q_830 : (((0 : Int) ≤ (27 : Int)) ∧ ((27 : Int) ≤ (64 : Int))) := by omega
theorem q_831 : (inr (27 : Int)) := by omega
theorem q_832 {x0 x1 x2 : Int} (h0 : ((x0 - x1) ≤ ((31 : Int) - ((8 : Int) * x2)))) : ((x0 - (x1 + (8 : Int))) ≤ ((31 : Int) - ((8 : Int) * (x2 + (1 : Int))))) := by omega
theorem q_833 {x0 x1 x2 : Int} (h0 : ((8 : Int) ≤ (x0 - x1))) (h1 : ((x2 ≤ x1) ∧ (x1 ≤ x0))) : ((x2 ≤ (x1 + (8 : Int))) ∧ ((x1 + (8 : Int)) ≤ x0)) := by omega
theorem q_834 {x0 x1 x2 : Int} (h0 : ((8 : Int) ≤ (x0 - x1))) (h1 : (((0 : Int) ≤ x2) ∧ ((x2 ≤ x0) ∧ (x0 ≤ (65536 : Int))))) (h2 : (inr x1)) : (inr (x1 + (8 : Int))) := by omega
theorem q_835 : ((inr (32 : Int)) ∧ ((0 : Int) < (32 : Int))) := by omega
theorem q_836 {x0 x1 : Int} (h0 : ((32 : Int) ≤ (x0 - x1))) (h1 : (((0 : Int) ≤ x1) ∧ ((x1 ≤ x0) ∧ (x0 ≤ (65536 : Int))))) : ((inr (x0 - x1)) ∧ ((0 : Int) ≤ (x0 - x1))) := by omega
theorem q_837 {x0 x1 : Int} : ((x0 - ((x0 - x1) % (32 : Int))) = (x0 - ((x0 - x1) % (32 : Int)))) := by omega
theorem q_838 {x0 x1 : Int} (h0 : ((32 : Int) ≤ (x0 - x1))) (h1 : (((0 : Int) ≤ x1) ∧ ((x1 ≤ x0) ∧ (x0 ≤ (65536 : Int))))) : (inr (x0 - ((x0 - x1) % (32 : Int)))) := by omega
theorem q_839 {x0 x1 x2 : Int} (h0 : (((0 : Int) ≤ x0) ∧ ((x0 < x1) ∧ ((x1 ≤ x2) ∧ (x2 ≤ (65536 : Int)))))) : (((0 : Int) ≤ (0 : Int)) ∧ ((0 : Int) ≤ (x2 - x1))) := by omega
theorem q_840 {x0 x1 x2 x3 : Int} (h0 : (((0 : Int) ≤ x0) ∧ ((x0 < x1) ∧ ((x1 ≤ x2) ∧ (x2 ≤ (65536 : Int)))))) (h1 : (((0 : Int) ≤ x3) ∧ (x3 ≤ (x2 - x1)))) : (inr (x1 + x3)) := by omega
theorem q_841 {x0 x1 x2 x3 : Int} (h0 : ((x0 + x1) < x2)) (h1 : (((0 : Int) ≤ x3) ∧ ((x3 < x0) ∧ ((x0 ≤ x2) ∧ (x2 ≤ (65536 : Int)))))) (h2 : (((0 : Int) ≤ x1) ∧ (x1 ≤ (x2 - x0)))) : (((0 : Int) ≤ (x3 + x1)) ∧ ((x3 + x1) < ((65536 : Nat) : Int))) := by omega
theorem q_842 {x0 x1 x2 x3 : Int} (h0 : ((x0 + x1) < x2)) (h1 : (((0 : Int) ≤ x3) ∧ ((x3 < x0) ∧ ((x0 ≤ x2) ∧ (x2 ≤ (65536 : Int)))))) (h2 : (((0 : Int) ≤ x1) ∧ (x1 ≤ (x2 - x0)))) : (((0 : Int) ≤ (x0 + x1)) ∧ ((x0 + x1) < ((65536 : Nat) : Int))) := by omega
theorem q_843 {x0 x1 x2 : Int} (h0 : ((x0 + x1) < x2)) (h1 : (((0 : Int) ≤ x1) ∧ (x1 ≤ (x2 - x0)))) : (((0 : Int) ≤ (x1 + (1 : Int))) ∧ ((x1 + (1 : Int)) ≤ (x2 - x0))) := by omega
theorem q_844 {x0 x1 x2 x3 : Int} (h0 : ((x0 + x1) < x2)) (h1 : (((0 : Int) ≤ x3) ∧ ((x3 < x0) ∧ ((x0 ≤ x2) ∧ (x2 ≤ (65536 : Int)))))) (h2 : (((0 : Int) ≤ x1) ∧ (x1 ≤ (x2 - x0)))) : (inr (x1 + (1 : Int))) := by omega
theorem q_845 {x0 x1 x2 x3 x4 : Int} : (((0 : Int) = (0 : Int)) ∨ ((x0 ≤ x1) ∧ ((x1 < x2) ∧ ((x3 ≤ (0 : Int)) ∧ ((0 : Int) ≤ (x4 - x2)))))) := by omega
theorem q_846 {x0 x1 x2 : Int} (h0 : (((0 : Int) ≤ x0) ∧ ((x0 ≤ x1) ∧ ((x1 ≤ x2) ∧ (x2 ≤ (16384 : Int)))))) : (((x0 - (1 : Int)) ≤ (x1 - (1 : Int))) ∧ ((x1 - (1 : Int)) ≤ (x1 - (1 : Int)))) := by omega
theorem q_847 {x0 x1 x2 : Int} (h0 : (((0 : Int) ≤ x0) ∧ ((x0 ≤ x1) ∧ ((x1 ≤ x2) ∧ (x2 ≤ (16384 : Int)))))) : (inr (x1 - (1 : Int))) := by omega
theorem q_848 {x0 x1 x2 x3 : Int} (h0 : (x0 ≤ x1)) (h1 : (((0 : Int) ≤ x0) ∧ ((x0 ≤ x2) ∧ ((x2 ≤ x3) ∧ (x3 ≤ (16384 : Int)))))) (h2 : (((x0 - (1 : Int)) ≤ x1) ∧ (x1 ≤ (x2 - (1 : Int))))) : (((0 : Int) ≤ x1) ∧ ((x1 < x2) ∧ ((x2 ≤ x3) ∧ (x3 ≤ (65536 : Int))))) := by omega
theorem q_849 {x0 x1 x2 : Int} (h0 : (x0 ≤ x1)) (h1 : (((x0 - (1 : Int)) ≤ x1) ∧ (x1 ≤ (x2 - (1 : Int))))) : (((x0 - (1 : Int)) ≤ (x1 + (-(1 : Int)))) ∧ ((x1 + (-(1 : Int))) ≤ (x2 - (1 : Int)))) := by omega
theorem q_850 {x0 x1 x2 x3 : Int} (h0 : (x0 ≤ x1)) (h1 : (((0 : Int) ≤ x0) ∧ ((x0 ≤ x2) ∧ ((x2 ≤ x3) ∧ (x3 ≤ (16384 : Int)))))) (h2 : (inr x1)) : (inr (x1 + (-(1 : Int)))) := by omega
theorem q_851 {x0 x1 : Int} : ((((x0 + (-(1 : Int))) - x1) + (1 : Int)) < ((x0 - x1) + (1 : Int))) := by omega
theorem q_852 {x0 x1 : Int} (h0 : (x0 ≤ x1)) : ((0 : Int) < ((x1 - x0) + (1 : Int))) := by omega
theorem q_853 {x0 x1 x2 x3 : Int} (h0 : (x0 ≤ x1)) (h1 : (((0 : Int) ≤ x0) ∧ ((x0 ≤ x2) ∧ ((x2 ≤ x3) ∧ (x3 ≤ (16384 : Int)))))) (h2 : (((x0 - (1 : Int)) ≤ x1) ∧ (x1 ≤ (x2 - (1 : Int))))) : (((0 : Int) ≤ x1) ∧ (x1 ≤ (65536 : Int))) := by omega
theorem q_854 {x0 x1 x2 x3 : Int} (h0 : (((0 : Int) ≤ x0) ∧ ((x0 ≤ x1) ∧ ((x1 ≤ x2) ∧ (x2 ≤ (16384 : Int)))))) (h1 : (((0 : Int) ≤ x3) ∧ (x3 ≤ (x2 - x1)))) : (((0 : Int) ≤ x3) ∧ (x3 ≤ (65536 : Int))) := by omega
theorem q_855 {x0 x1 x2 x3 x4 x5 : Int} (h0 : (x0 ≤ x1)) (h1 : (x2 ≤ x3)) (h2 : (((x2 - (1 : Int)) ≤ x3) ∧ (x3 ≤ (x4 - (1 : Int))))) (h3 : (((0 : Int) ≤ x1) ∧ (x1 ≤ (x5 - x4)))) : ((x1 = (0 : Int)) ∨ ((x2 ≤ x3) ∧ ((x3 < x4) ∧ ((x0 ≤ x1) ∧ (x1 ≤ (x5 - x4)))))) := by omega
theorem q_856 {x0 x1 x2 x3 : Int} : (((0 : Int) = (0 : Int)) ∨ ((x0 ≤ x1) ∧ ((x1 < x2) ∧ (((4 : Int) ≤ (0 : Int)) ∧ ((0 : Int) ≤ (x3 - x2)))))) := by omega
theorem q_857 {x0 x1 x2 x3 x4 : Int} (h0 : ((4 : Int) ≤ x0)) (h1 : (x1 ≤ x2)) (h2 : (((x1 - (1 : Int)) ≤ x2) ∧ (x2 ≤ (x3 - (1 : Int))))) (h3 : (((0 : Int) ≤ x0) ∧ (x0 ≤ (x4 - x3)))) : ((x0 = (0 : Int)) ∨ ((x1 ≤ x2) ∧ ((x2 < x3) ∧ (((4 : Int) ≤ x0) ∧ (x0 ≤ (x4 - x3)))))) := by omega
theorem q_858 {x0 : Int} (h0 : (x0 = (3 : Int))) : ((x0 < (2 : Int)) ∨ ((x0 = (2 : Int)) ∨ (x0 = (3 : Int)))) := by omega
theorem q_859 {x0 x1 : Int} (h0 : (((0 : Int) ≤ x0) ∧ (x0 ≤ (65536 : Int)))) : (((0 : Int) ≤ x0) ∨ (x1 < (2 : Int))) := by omega
theorem q_860 {x0 x1 x2 : Int} (h0 : (((0 : Int) ≤ x0) ∧ ((x0 ≤ x1) ∧ ((x1 < x2) ∧ (x2 ≤ (16384 : Int)))))) : (((0 : Int) ≤ x0) ∧ ((x0 ≤ x1) ∧ ((x1 ≤ x2) ∧ (x2 ≤ (16384 : Int))))) := by omega
theorem q_861 {x0 x1 x2 : Int} (h0 : (((0 : Int) ≤ x0) ∧ ((x0 ≤ x1) ∧ ((x1 < x2) ∧ (x2 ≤ (16384 : Int)))))) : (((0 : Int) ≤ x0) ∧ ((x0 ≤ (x1 + (1 : Int))) ∧ (((x1 + (1 : Int)) ≤ x2) ∧ (x2 ≤ (16384 : Int))))) := by omega
theorem q_862 {x0 x1 x2 : Int} (h0 : (((0 : Int) ≤ x0) ∧ ((x0 ≤ x1) ∧ ((x1 < x2) ∧ (x2 ≤ (16384 : Int)))))) : (inr (x1 + (1 : Int))) := by omega
theorem q_863 {x0 x1 x2 x3 x4 x5 : Int} (h0 : (x0 = (3 : Int))) : (((2 : Int) ≤ x0) ∨ ((x1 = (0 : Int)) ∨ ((x2 ≤ x3) ∧ ((x3 < x4) ∧ (((4 : Int) ≤ x1) ∧ (x1 ≤ (x5 - x4))))))) := by omega
theorem q_864 : (((4 : Int) ≤ (4 : Int)) ∧ ((4 : Int) ≤ (8 : Int))) := by omega
theorem q_865 {x0 x1 x2 x3 x4 x5 : Int} (h0 : ((x0 = (0 : Int)) ∨ ((x1 ≤ x2) ∧ ((x2 < x3) ∧ (((4 : Int) ≤ x0) ∧ (x0 ≤ (x4 - x3))))))) : (((2 : Int) ≤ x5) ∨ ((x0 = (0 : Int)) ∨ ((x1 ≤ x2) ∧ ((x2 < x3) ∧ (((4 : Int) ≤ x0) ∧ (x0 ≤ (x4 - x3))))))) := by omega
theorem q_866 {x0 : Int} (h0 : (x0 = (1 : Int))) : ((x0 = (0 : Int)) ∨ (x0 = (1 : Int))) := by omega
theorem q_867 {x0 x1 x2 x3 x4 x5 : Int} (h0 : (x0 ≠ (1 : Int))) : ((x0 ≠ (1 : Int)) ∨ ((x1 = (0 : Int)) ∨ ((x2 ≤ x3) ∧ ((x3 < x4) ∧ (((8 : Int) ≤ x1) ∧ (x1 ≤ (x5 - x4))))))) := by omega
theorem q_868 : (((4 : Int) ≤ (8 : Int)) ∧ ((8 : Int) ≤ (8 : Int))) := by omega
theorem q_869 {x0 x1 x2 x3 x4 x5 : Int} (h0 : ((x0 = (0 : Int)) ∨ ((x1 ≤ x2) ∧ ((x2 < x3) ∧ (((8 : Int) ≤ x0) ∧ (x0 ≤ (x4 - x3))))))) : ((x5 ≠ (1 : Int)) ∨ ((x0 = (0 : Int)) ∨ ((x1 ≤ x2) ∧ ((x2 < x3) ∧ (((8 : Int) ≤ x0) ∧ (x0 ≤ (x4 - x3))))))) := by omega
theorem q_870 {x0 : Int} : (((0 : Int) = (0 : Int)) ∧ ((x0 = x0) ∧ (((0 : Int) = (0 : Int)) ∧ ((0 : Int) = (0 : Int))))) := by omega
theorem q_871 {x0 : Int} (h0 : (((0 : Int) ≤ x0) ∧ (x0 < (65536 : Int)))) : (((0 : Int) ≤ x0) ∧ (x0 < ((65536 : Nat) : Int))) := by omega
theorem q_872 {x0 x1 : Int} (h0 : (((0 : Int) ≤ x0) → (((0 : Int) ≤ x1) ∧ (x1 ≤ x0)))) (h1 : (((0 : Int) ≤ x0) ∧ (x0 ≤ (255 : Int)))) : (((0 : Int) ≤ x1) ∧ (x1 ≤ (255 : Int))) := by omega
theorem q_873 {x0 x1 x2 : Int} (h0 : (x0 < x1)) (h1 : (((0 : Int) ≤ x2) ∧ ((x2 ≤ x1) ∧ (x1 ≤ (70000 : Int))))) (h2 : (x2 ≤ x0)) : (((0 : Int) ≤ x0) ∧ (x0 < ((70000 : Nat) : Int))) := by omega
theorem q_874 {x0 x1 x2 : Int} (h0 : (x0 < x1)) (h1 : (((0 : Int) ≤ x2) ∧ ((x2 ≤ x1) ∧ (x1 ≤ (65536 : Int))))) (h2 : (x2 ≤ x0)) : (((0 : Int) ≤ x0) ∧ (x0 < ((65536 : Nat) : Int))) := by omega
theorem q_875 {x0 : Int} (h0 : (((0 : Int) ≤ x0) ∧ (x0 ≤ (16384 : Int)))) : (((0 : Int) ≤ x0) ∧ (x0 < ((16385 : Nat) : Int))) := by omega
theorem q_876 {x0 x1 x2 x3 : Int} (h0 : (x0 = (0 : Int))) (h1 : (x1 = x2)) : (((x0 = (1 : Int)) ∧ (x2 = x3)) ∨ ((x0 = (0 : Int)) ∧ (x2 = x1))) := by omega
theorem q_877 {x0 : Int} (h0 : (((0 : Int) ≤ x0) ∧ (x0 ≤ (2147483647 : Int)))) : (inr x0) := by omega
theorem q_878 {x0 x1 : Int} (h0 : (((0 : Int) ≤ x0) ∧ ((x0 ≤ x1) ∧ (x1 ≤ (16384 : Int))))) : (((0 : Int) ≤ (x1 - x0)) ∧ ((x1 - x0) ≤ (16384 : Int))) := by omega
theorem q_879 {x0 x1 x2 x3 x4 x5 : Int} (h0 : (((0 : Int) ≤ x0) ∧ (x0 ≤ (100000 : Int)))) (h1 : (((0 : Int) ≤ x1) ∧ (x1 ≤ (100000 : Int)))) (h2 : (((x2 = (1 : Int)) ∧ (x3 = x0)) ∨ ((x2 = (0 : Int)) ∧ (x3 = x1)))) (h3 : (inr x4)) (h4 : (((x2 = (1 : Int)) ∧ (((4 : Int) ≤ x5) ∧ ((x5 ≤ (11 : Int)) ∧ (x4 = (2 : Int))))) ∨ ((¬ ((x2 = (1 : Int)) ∧ (((4 : Int) ≤ x5) ∧ (x5 ≤ (11 : Int))))) ∧ (x4 = (3 : Int))))) : (inr (x4 + x3)) := by omega
theorem q_880 {x0 : Int} (h0 : (((0 : Int) ≤ x0) ∧ (x0 ≤ (16384 : Int)))) : ((1 : Int) ≤ (x0 + (1 : Int))) := by omega
theorem q_881 {x0 : Int} (h0 : (((0 : Int) ≤ x0) ∧ (x0 ≤ (16384 : Int)))) : (inr (x0 + (1 : Int))) := by omega
theorem q_882 {x0 x1 x2 : Int} (h0 : (x0 < x1)) (h1 : (x1 = (x2 + (1 : Int)))) : (x0 ≤ x2) := by omega
theorem q_883 : (((0 : Int) ≤ (2147483647 : Int)) ∧ ((2147483647 : Int) ≤ (2147483647 : Int))) := by omega
theorem q_884 {x0 x1 : Int} (h0 : (x0 ≤ x1)) (h1 : (((0 : Int) ≤ x1) ∧ (x1 ≤ (16384 : Int)))) (h2 : ((1 : Int) ≤ x0)) : (((0 : Int) ≤ x0) ∧ (x0 < ((16385 : Nat) : Int))) := by omega
theorem q_885 {x0 x1 : Int} (h0 : (x0 = (x1 + (1 : Int)))) : (x1 = (x0 - (1 : Int))) := by omega
theorem q_886 {x0 : Int} (h0 : ((1 : Int) ≤ x0)) : (((1 : Int) ≤ (1 : Int)) ∧ (((1 : Int) ≤ (65 : Int)) ∧ ((1 : Int) ≤ (x0 + (1 : Int))))) := by omega
theorem q_887 {x0 x1 : Int} (h0 : (x0 ≤ x1)) (h1 : (((0 : Int) ≤ x1) ∧ (x1 ≤ (16384 : Int)))) (h2 : ((1 : Int) ≤ x0)) : (((0 : Int) ≤ x0) ∧ (x0 ≤ (16384 : Int))) := by omega
theorem q_888 {x0 : Int} (h0 : ((1 : Int) ≤ x0)) : ((1 : Int) ≤ (x0 + (1 : Int))) := by omega
theorem q_889 {x0 x1 : Int} (h0 : (x0 = (x1 - (1 : Int)))) (h1 : ((1 : Int) ≤ x1)) (h2 : (((0 : Int) ≤ x0) ∧ (x0 ≤ (16384 : Int)))) : (inr (x1 + (1 : Int))) := by omega
theorem q_890 {x0 x1 : Int} (h0 : (x0 ≤ x1)) : ((0 : Int) < ((x1 + (1 : Int)) - x0)) := by omega
theorem q_891 {x0 x1 : Int} (h0 : (x0 < x1)) (h1 : (((1 : Int) ≤ x1) ∧ ((x1 ≤ (65 : Int)) ∧ (x1 ≤ (x0 + (1 : Int)))))) (h2 : ((1 : Int) ≤ x0)) : (((0 : Int) ≤ x0) ∧ (x0 ≤ (16384 : Int))) := by omega
theorem q_892 {x0 x1 : Int} (h0 : (x0 < x1)) (h1 : (((1 : Int) ≤ x1) ∧ ((x1 ≤ (65 : Int)) ∧ (x1 ≤ (x0 + (1 : Int)))))) (h2 : ((1 : Int) ≤ x0)) : (inr (x0 + (1 : Int))) := by omega
theorem q_893 {x0 x1 : Int} (h0 : (x0 ≤ (64 : Int))) (h1 : (x0 ≤ x1)) (h2 : (((1 : Int) ≤ x0) ∧ ((x0 ≤ (65 : Int)) ∧ (x0 ≤ (x1 + (1 : Int)))))) : (((1 : Int) ≤ (x0 + (1 : Int))) ∧ (((x0 + (1 : Int)) ≤ (65 : Int)) ∧ ((x0 + (1 : Int)) ≤ (x1 + (1 : Int))))) := by omega
theorem q_894 {x0 x1 : Int} (h0 : (x0 ≤ (64 : Int))) (h1 : (((1 : Int) ≤ x0) ∧ ((x0 ≤ (65 : Int)) ∧ (x0 ≤ (x1 + (1 : Int)))))) : (inr (x0 + (1 : Int))) := by omega
theorem q_895 {x0 : Int} : (((65 : Int) - (x0 + (1 : Int))) < ((65 : Int) - x0)) := by omega
theorem q_896 {x0 : Int} (h0 : (x0 ≤ (64 : Int))) : ((0 : Int) < ((65 : Int) - x0)) := by omega
theorem q_897 {x0 x1 x2 : Int} (h0 : (x0 ≤ x1)) (h1 : (x2 ≤ x0)) (h2 : (((0 : Int) ≤ x1) ∧ (x1 ≤ (16384 : Int)))) (h3 : (((1 : Int) ≤ x2) ∧ ((x2 ≤ (65 : Int)) ∧ (x2 ≤ (x0 + (1 : Int)))))) : (((0 : Int) ≤ x2) ∧ ((x2 ≤ x0) ∧ (x0 ≤ (16384 : Int)))) := by omega
theorem q_898 {x0 : Int} (h0 : (((1 : Int) ≤ x0) ∧ (x0 ≤ (16384 : Int)))) : (((0 : Int) ≤ x0) ∧ (x0 ≤ (16384 : Int))) := by omega
theorem q_899 {x0 x1 : Int} : ((x0 ≤ x0) ∧ (x0 ≤ (x0 + ((3 : Int) * (x1 - x1))))) := by omega
theorem q_900 {x0 : Int} (h0 : (((1 : Int) ≤ x0) ∧ (x0 ≤ (16384 : Int)))) : (((0 : Int) ≤ x0) ∧ (x0 ≤ x0)) := by omega
theorem q_901 {x0 x1 x2 x3 : Int} (h0 : (((0 : Int) ≤ x0) ∧ (x0 ≤ x1))) (h1 : ((x2 ≤ x3) ∧ (x3 ≤ (x2 + ((3 : Int) * (x1 - x0)))))) : ((x2 ≤ x3) ∧ (x3 ≤ (x2 + ((3 : Int) * x1)))) := by omega
theorem q_902 {x0 : Int} (h0 : ((64 : Int) ≤ x0)) : (((1 : Int) ≤ (64 : Int)) ∧ (((64 : Int) ≤ (64 : Int)) ∧ ((64 : Int) ≤ x0))) := by omega
theorem q_903 {x0 x1 x2 x3 x4 : Int} (h0 : (((1 : Int) ≤ x0) ∧ (x0 ≤ (16384 : Int)))) (h1 : ((x1 ≤ x2) ∧ (x2 ≤ (x1 + ((3 : Int) * (x0 - x3)))))) (h2 : (((1 : Int) ≤ x4) ∧ ((x4 ≤ (64 : Int)) ∧ (x4 ≤ x3)))) : (((0 : Int) ≤ x4) ∧ ((x4 ≤ x3) ∧ (x3 ≤ (16384 : Int)))) := by omega
theorem q_904 {x0 x1 x2 x3 : Int} (h0 : (((1 : Int) ≤ x0) ∧ (x0 ≤ (16384 : Int)))) (h1 : (((0 : Int) ≤ x1) ∧ (x1 ≤ x0))) (h2 : ((x2 ≤ x3) ∧ (x3 ≤ (x2 + ((3 : Int) * (x0 - x1)))))) : (((0 : Int) ≤ x1) ∧ (x1 ≤ (16384 : Int))) := by omega
theorem q_905 {x0 x1 x2 x3 x4 x5 : Int} (h0 : ((x0 ≤ x1) ∧ (x1 ≤ (x0 + ((3 : Int) * (x2 - x3)))))) (h1 : (((1 : Int) ≤ x4) ∧ ((x4 ≤ (64 : Int)) ∧ (x4 ≤ x3)))) (h2 : ((x1 ≤ x5) ∧ (x5 ≤ (x1 + (3 : Int))))) : ((x0 ≤ x5) ∧ (x5 ≤ (x0 + ((3 : Int) * (x2 - (x3 - x4)))))) := by omega
theorem q_906 {x0 x1 x2 x3 x4 : Int} (h0 : ((x0 ≤ x1) ∧ (x1 ≤ (x0 + ((3 : Int) * (x2 - x3)))))) (h1 : (((1 : Int) ≤ x4) ∧ ((x4 ≤ (64 : Int)) ∧ (x4 ≤ x3)))) : (((0 : Int) ≤ (x3 - x4)) ∧ ((x3 - x4) ≤ x2)) := by omega
theorem q_907 {x0 x1 : Int} (h0 : (inr x0)) (h1 : (((1 : Int) ≤ x1) ∧ ((x1 ≤ (64 : Int)) ∧ (x1 ≤ x0)))) : (inr (x0 - x1)) := by omega
theorem q_908 {x0 x1 : Int} (h0 : (((1 : Int) ≤ x0) ∧ ((x0 ≤ (64 : Int)) ∧ (x0 ≤ x1)))) : ((x1 - x0) < x1) := by omega
theorem q_909 {x0 x1 x2 x3 : Int} (h0 : ((64 : Int) ≤ x0)) (h1 : (((1 : Int) ≤ x1) ∧ (x1 ≤ (16384 : Int)))) (h2 : (((0 : Int) ≤ x2) ∧ (x2 ≤ (9000000 : Int)))) (h3 : ((x2 ≤ x3) ∧ (x3 ≤ (x2 + ((3 : Int) * (x1 - x0)))))) (h4 : (((-(2147483648 : Int)) ≤ x3) ∧ (x3 ≤ (2147483647 : Int)))) : (((0 : Int) ≤ x3) ∧ (x3 ≤ (100000000 : Int))) := by omega
theorem q_910 {x0 x1 : Int} (h0 : (((1 : Int) ≤ x0) ∧ ((x0 ≤ (64 : Int)) ∧ (x0 ≤ x1)))) : (inr ((2 : Int) + ((4 : Int) * (x0 - (1 : Int))))) := by omega
theorem q_911 : (((0 : Int) ≤ (2 : Int)) ∧ ((2 : Int) ≤ (4 : Int))) := by omega
theorem q_912 {x0 x1 x2 : Int} (h0 : (x0 = (x1 + (1 : Int)))) (h1 : (x2 = (x0 + (2 : Int)))) : ((x1 ≤ x2) ∧ (x2 ≤ (x1 + (3 : Int)))) := by omega
theorem q_913 {x0 : Int} (h0 : (inr x0)) (h1 : (((0 : Int) ≤ x0) ∧ (x0 ≤ (65536 : Int)))) : ((inr x0) ∧ ((0 : Int) ≤ x0)) := by omega
theorem q_914 {x0 x1 x2 : Int} (h0 : (((0 : Int) ≤ x0) ∧ (x0 ≤ (65536 : Int)))) (h1 : (((1 : Int) ≤ x1) ∧ ((x1 ≤ (64 : Int)) ∧ (x1 ≤ x2)))) : (inr ((1 : Int) + ((4 : Int) * ((x1 - (4 : Int)) + ((8 : Int) * (x0 / (256 : Int))))))) := by omega
theorem q_915 {x0 x1 x2 x3 x4 : Int} (h0 : ((64 : Int) ≤ x0)) (h1 : (((1 : Int) ≤ x1) ∧ (x1 ≤ (16384 : Int)))) (h2 : (((0 : Int) ≤ x2) ∧ (x2 ≤ (9000000 : Int)))) (h3 : ((x2 ≤ x3) ∧ (x3 ≤ (x2 + ((3 : Int) * (x1 - x0)))))) (h4 : (x4 = (x3 + (1 : Int)))) (h5 : (((-(2147483648 : Int)) ≤ x4) ∧ (x4 ≤ (2147483647 : Int)))) : (((0 : Int) ≤ x4) ∧ (x4 ≤ (100000000 : Int))) := by omega
theorem q_916 {x0 x1 x2 : Int} (h0 : (x0 = (x1 + (1 : Int)))) (h1 : (x2 = (x0 + (1 : Int)))) : ((x1 ≤ x2) ∧ (x2 ≤ (x1 + (3 : Int)))) := by omega
theorem q_917 {x0 x1 : Int} (h0 : (((1 : Int) ≤ x0) ∧ ((x0 ≤ (64 : Int)) ∧ (x0 ≤ x1)))) : (inr (x0 + (-(1 : Int)))) := by omega
theorem q_918 {x0 x1 : Int} (h0 : (((1 : Int) ≤ x0) ∧ ((x0 ≤ (64 : Int)) ∧ (x0 ≤ x1)))) : ((0 : Int) < x0) := by omega
theorem q_919 {x0 : Int} (h0 : ((0 : Int) < x0)) (h1 : (x0 < (64 : Int))) : (((1 : Int) ≤ x0) ∧ ((x0 ≤ (64 : Int)) ∧ (x0 ≤ x0))) := by omega
theorem q_920 {x0 x1 : Int} (h0 : (x0 < (64 : Int))) (h1 : (((1 : Int) ≤ x1) ∧ ((x1 ≤ (64 : Int)) ∧ (x1 ≤ x0)))) : (((0 : Int) ≤ x1) ∧ ((x1 ≤ x0) ∧ (x0 ≤ (16384 : Int)))) := by omega
theorem q_921 {x0 x1 : Int} (h0 : (x0 < (64 : Int))) (h1 : (((0 : Int) ≤ x0) ∧ (x0 ≤ x1))) : (((0 : Int) ≤ x0) ∧ (x0 ≤ (16384 : Int))) := by omega
theorem q_922 {x0 x1 : Int} (h0 : (x0 < (64 : Int))) (h1 : (((1 : Int) ≤ x1) ∧ ((x1 ≤ (64 : Int)) ∧ (x1 ≤ x0)))) : (inr (x0 - x1)) := by omega
theorem q_923 {x0 x1 x2 x3 : Int} (h0 : ((0 : Int) < x0)) (h1 : (((1 : Int) ≤ x1) ∧ (x1 ≤ (16384 : Int)))) (h2 : (((0 : Int) ≤ x2) ∧ (x2 ≤ (9000000 : Int)))) (h3 : ((x2 ≤ x3) ∧ (x3 ≤ (x2 + ((3 : Int) * (x1 - x0)))))) (h4 : (((-(2147483648 : Int)) ≤ x3) ∧ (x3 ≤ (2147483647 : Int)))) : (((0 : Int) ≤ x3) ∧ (x3 ≤ (100000000 : Int))) := by omega
theorem q_924 {x0 x1 x2 : Int} (h0 : (x0 = (x1 + (2 : Int)))) (h1 : (x1 = (x2 + (1 : Int)))) : ((x2 ≤ x0) ∧ (x0 ≤ (x2 + (3 : Int)))) := by omega
theorem q_925 {x0 x1 x2 x3 x4 : Int} (h0 : ((0 : Int) < x0)) (h1 : (((1 : Int) ≤ x1) ∧ (x1 ≤ (16384 : Int)))) (h2 : (((0 : Int) ≤ x2) ∧ (x2 ≤ (9000000 : Int)))) (h3 : ((x2 ≤ x3) ∧ (x3 ≤ (x2 + ((3 : Int) * (x1 - x0)))))) (h4 : (x4 = (x3 + (1 : Int)))) (h5 : (((-(2147483648 : Int)) ≤ x4) ∧ (x4 ≤ (2147483647 : Int)))) : (((0 : Int) ≤ x4) ∧ (x4 ≤ (100000000 : Int))) := by omega
theorem q_926 : (inr (2048 : Int)) := by omega
theorem q_927 {x0 : Int} (h0 : ((2048 : Int) ≤ x0)) : ((((0 : Int) = (1 : Int)) ∧ (x0 < (2048 : Int))) ∨ (((0 : Int) = (0 : Int)) ∧ ((2048 : Int) ≤ x0))) := by omega
theorem q_928 {x0 : Int} (h0 : (x0 < (2048 : Int))) : ((((1 : Int) = (1 : Int)) ∧ (x0 < (2048 : Int))) ∨ (((1 : Int) = (0 : Int)) ∧ ((2048 : Int) ≤ x0))) := by omega
theorem q_929 {x0 : Int} (h0 : (((0 : Int) ≤ x0) ∧ (x0 ≤ (9000000 : Int)))) (h1 : (((-(2147483648 : Int)) ≤ x0) ∧ (x0 ≤ (2147483647 : Int)))) : (((0 : Int) ≤ x0) ∧ (x0 ≤ (100000000 : Int))) := by omega
theorem q_930 {x0 x1 : Int} (h0 : (((0 : Int) ≤ x0) ∧ (x0 ≤ (9000000 : Int)))) (h1 : (x1 = (x0 + (1 : Int)))) (h2 : (((-(2147483648 : Int)) ≤ x1) ∧ (x1 ≤ (2147483647 : Int)))) : (((0 : Int) ≤ x1) ∧ (x1 ≤ (10000000 : Int))) := by omega
theorem q_931 {x0 x1 x2 x3 : Int} (h0 : (((x0 = (0 : Int)) ∧ ((x1 - x2) ≤ (60 : Int))) ∨ (((x0 = (1 : Int)) ∧ (((60 : Int) < (x1 - x2)) ∧ ((x1 - x2) ≤ (256 : Int)))) ∨ ((x0 = (2 : Int)) ∧ ((256 : Int) < (x1 - x2)))))) (h1 : (((x0 = (0 : Int)) ∧ (x3 = ((4 : Int) * ((x1 - x2) - (1 : Int))))) ∨ (((1 : Int) ≤ x0) ∧ (x3 = ((4 : Int) * ((59 : Int) + x0)))))) (h2 : (((0 : Int) ≤ x3) ∧ (x3 ≤ (1000 : Int)))) : (((0 : Int) ≤ x0) ∧ (x0 ≤ (4 : Int))) := by omega
theorem q_932 {x0 x1 : Int} (h0 : (((0 : Int) ≤ x0) ∧ ((x0 ≤ x1) ∧ (x1 ≤ (65536 : Int))))) : (inr ((x1 - x0) - (1 : Int))) := by omega
theorem q_933 {x0 x1 x2 : Int} (h0 : (((x0 = (0 : Int)) ∧ ((x1 - x2) ≤ (60 : Int))) ∨ (((x0 = (1 : Int)) ∧ (((60 : Int) < (x1 - x2)) ∧ ((x1 - x2) ≤ (256 : Int)))) ∨ ((x0 = (2 : Int)) ∧ ((256 : Int) < (x1 - x2)))))) : (((0 : Int) ≤ ((4 : Int) * ((59 : Int) + x0))) ∧ (((4 : Int) * ((59 : Int) + x0)) ≤ (1000 : Int))) := by omega
theorem q_934 {x0 x1 x2 : Int} (h0 : (((x0 = (0 : Int)) ∧ ((x1 - x2) ≤ (60 : Int))) ∨ (((x0 = (1 : Int)) ∧ (((60 : Int) < (x1 - x2)) ∧ ((x1 - x2) ≤ (256 : Int)))) ∨ ((x0 = (2 : Int)) ∧ ((256 : Int) < (x1 - x2)))))) : (inr ((4 : Int) * ((59 : Int) + x0))) := by omega
theorem q_935 {x0 x1 x2 : Int} (h0 : (x0 = (0 : Int))) : (((x0 = (0 : Int)) ∧ (((4 : Int) * ((x1 - x2) - (1 : Int))) = ((4 : Int) * ((x1 - x2) - (1 : Int))))) ∨ (((1 : Int) ≤ x0) ∧ (((4 : Int) * ((x1 - x2) - (1 : Int))) = ((4 : Int) * ((59 : Int) + x0))))) := by omega
theorem q_936 {x0 x1 : Int} (h0 : (((0 : Int) ≤ x0) ∧ ((x0 ≤ x1) ∧ (x1 ≤ (65536 : Int))))) : (inr ((4 : Int) * ((x1 - x0) - (1 : Int)))) := by omega
theorem q_937 : (inr (60 : Int)) := by omega
theorem q_938 {x0 x1 : Int} (h0 : ((60 : Int) < (x0 - x1))) (h1 : (((0 : Int) ≤ x1) ∧ ((x1 ≤ x0) ∧ (x0 ≤ (65536 : Int))))) : (inr (x0 - x1)) := by omega
theorem q_939 {x0 x1 : Int} (h0 : ((256 : Int) < (x0 - x1))) (h1 : (((0 : Int) ≤ x1) ∧ ((x1 ≤ x0) ∧ (x0 ≤ (65536 : Int))))) : (inr (x0 - x1)) := by omega
theorem q_940 {x0 x1 : Int} (h0 : ((256 : Int) < (x0 - x1))) : ((((2 : Int) = (0 : Int)) ∧ ((x0 - x1) ≤ (60 : Int))) ∨ ((((2 : Int) = (1 : Int)) ∧ (((60 : Int) < (x0 - x1)) ∧ ((x0 - x1) ≤ (256 : Int)))) ∨ (((2 : Int) = (2 : Int)) ∧ ((256 : Int) < (x0 - x1))))) := by omega
theorem q_941 {x0 x1 : Int} (h0 : ((60 : Int) < (x0 - x1))) (h1 : ((x0 - x1) ≤ (256 : Int))) : ((((1 : Int) = (0 : Int)) ∧ ((x0 - x1) ≤ (60 : Int))) ∨ ((((1 : Int) = (1 : Int)) ∧ (((60 : Int) < (x0 - x1)) ∧ ((x0 - x1) ≤ (256 : Int)))) ∨ (((1 : Int) = (2 : Int)) ∧ ((256 : Int) < (x0 - x1))))) := by omega
theorem q_942 {x0 x1 : Int} (h0 : ((x0 - x1) ≤ (60 : Int))) : ((((0 : Int) = (0 : Int)) ∧ ((x0 - x1) ≤ (60 : Int))) ∨ ((((0 : Int) = (1 : Int)) ∧ (((60 : Int) < (x0 - x1)) ∧ ((x0 - x1) ≤ (256 : Int)))) ∨ (((0 : Int) = (2 : Int)) ∧ ((256 : Int) < (x0 - x1))))) := by omega
theorem q_943 {x0 x1 x2 : Int} (h0 : ((x0 - x1) = (0 : Int))) : ((x2 ≤ x2) ∧ (x2 ≤ ((x2 + (x0 - x1)) + (4 : Int)))) := by omega
theorem q_944 {x0 x1 x2 : Int} (h0 : (((0 : Int) ≤ x0) ∧ ((x0 ≤ x1) ∧ (x1 ≤ (16384 : Int))))) : ((((x1 - x0) ≤ (16384 : Int)) ∧ (x2 = x2)) ∨ ((((x1 - x0) ≤ (128 : Int)) ∧ (x2 ≤ (x2 + (1 : Int)))) ∨ (((x1 - x0) ≤ (1 : Int)) ∧ (x2 ≤ (x2 + (2 : Int)))))) := by omega
theorem q_945 {x0 x1 : Int} (h0 : (((0 : Int) ≤ x0) ∧ ((x0 ≤ x1) ∧ (x1 ≤ (16384 : Int))))) : (((0 : Int) ≤ (x1 - x0)) ∧ ((x1 - x0) ≤ (x1 - x0))) := by omega
theorem q_946 {x0 x1 x2 : Int} (h0 : (((0 : Int) ≤ x0) ∧ (x0 ≤ (8000000 : Int)))) (h1 : (x0 ≤ x1)) (h2 : (((x2 ≤ (16384 : Int)) ∧ (x1 = x0)) ∨ (((x2 ≤ (128 : Int)) ∧ (x1 ≤ (x0 + (1 : Int)))) ∨ ((x2 ≤ (1 : Int)) ∧ (x1 ≤ (x0 + (2 : Int))))))) (h3 : (((-(2147483648 : Int)) ≤ x1) ∧ (x1 ≤ (2147483647 : Int)))) : (((0 : Int) ≤ x1) ∧ (x1 ≤ (100000000 : Int))) := by omega
theorem q_947 {x0 x1 x2 x3 x4 : Int} (h0 : (x0 ≤ x1)) (h1 : (((x2 ≤ (16384 : Int)) ∧ (x1 = x0)) ∨ (((x2 ≤ (128 : Int)) ∧ (x1 ≤ (x0 + (1 : Int)))) ∨ ((x2 ≤ (1 : Int)) ∧ (x1 ≤ (x0 + (2 : Int))))))) (h2 : (x3 = (x1 + (1 : Int)))) : ((x0 ≤ x3) ∧ (x3 ≤ ((x0 + ((10 : Int) * (x4 - x4))) + (5 : Int)))) := by omega
theorem q_948 {x0 x1 : Int} (h0 : (((0 : Int) ≤ x0) ∧ ((x0 ≤ x1) ∧ (x1 ≤ (16384 : Int))))) : ((x0 ≤ x0) ∧ ((x0 ≤ x0) ∧ (x0 ≤ x1))) := by omega
theorem q_949 {x0 x1 x2 x3 : Int} (h0 : (((0 : Int) ≤ x0) ∧ ((x0 ≤ x1) ∧ (x1 ≤ (16384 : Int))))) (h1 : ((x0 ≤ x2) ∧ ((x2 ≤ x3) ∧ (x3 ≤ x1)))) : (((0 : Int) ≤ x2) ∧ ((x2 ≤ x1) ∧ (x1 ≤ (65536 : Int)))) := by omega
theorem q_950 {x0 x1 x2 x3 x4 x5 x6 : Int} (h0 : ((x0 ≤ x1) ∧ ((x1 ≤ x2) ∧ (x2 ≤ x3)))) (h1 : ((x4 ≤ x5) ∧ (x5 ≤ ((x4 + ((10 : Int) * (x1 - x0))) + (5 : Int))))) (h2 : ((x5 ≤ x6) ∧ (x6 ≤ ((x5 + (x3 - x1)) + (4 : Int))))) : ((x4 ≤ x6) ∧ (x6 ≤ ((x4 + ((10 : Int) * (x3 - x0))) + (20 : Int)))) := by omega
theorem q_951 {x0 x1 x2 x3 : Int} (h0 : (x0 < x1)) (h1 : (((0 : Int) ≤ x2) ∧ ((x2 ≤ x1) ∧ (x1 ≤ (16384 : Int))))) (h2 : ((x2 ≤ x3) ∧ ((x3 ≤ x0) ∧ (x0 ≤ x1)))) : (((0 : Int) ≤ x2) ∧ ((x2 ≤ x0) ∧ ((x0 < x1) ∧ (x1 ≤ (16384 : Int))))) := by omega
theorem q_952 {x0 x1 x2 x3 : Int} (h0 : (x0 < x1)) (h1 : (((0 : Int) ≤ x2) ∧ ((x2 ≤ x1) ∧ (x1 ≤ (16384 : Int))))) (h2 : ((x2 ≤ x3) ∧ ((x3 ≤ x0) ∧ (x0 ≤ x1)))) : (((0 : Int) ≤ x3) ∧ ((x3 ≤ x0) ∧ (x0 ≤ (65536 : Int)))) := by omega
theorem q_953 {x0 x1 x2 x3 x4 x5 x6 : Int} (h0 : (((0 : Int) ≤ x0) ∧ ((x0 ≤ x1) ∧ (x1 ≤ (16384 : Int))))) (h1 : (inr x2)) (h2 : ((x0 ≤ x3) ∧ ((x3 ≤ x2) ∧ (x2 ≤ x1)))) (h3 : ((x4 ≤ x5) ∧ (x5 ≤ ((x4 + ((10 : Int) * (x3 - x0))) + (5 : Int))))) (h4 : (((0 : Int) ≤ x6) ∧ (x6 ≤ (65536 : Int)))) : (inr (x2 - x6)) := by omega
theorem q_954 {x0 x1 x2 x3 x4 x5 x6 x7 : Int} (h0 : (x0 < x1)) (h1 : ((x2 ≤ x3) ∧ ((x3 ≤ x0) ∧ (x0 ≤ x1)))) (h2 : ((x4 = (0 : Int)) ∨ ((x2 ≤ x5) ∧ ((x5 < x0) ∧ (((4 : Int) ≤ x4) ∧ (x4 ≤ (x1 - x0))))))) (h3 : ((x6 ≤ x7) ∧ (x7 ≤ (x6 + ((3 : Int) * x4))))) (h4 : (((0 : Int) ≤ x4) ∧ (x4 ≤ (65536 : Int)))) : ((x2 ≤ (x0 + x4)) ∧ (((x0 + x4) ≤ (x0 + x4)) ∧ ((x0 + x4) ≤ x1))) := by omega
theorem q_955 {x0 x1 x2 x3 x4 x5 : Int} (h0 : (x0 < x1)) (h1 : (((0 : Int) ≤ x2) ∧ ((x2 ≤ x1) ∧ (x1 ≤ (16384 : Int))))) (h2 : (inr x0)) (h3 : ((x3 ≤ x4) ∧ (x4 ≤ (x3 + ((3 : Int) * x5))))) (h4 : (((0 : Int) ≤ x5) ∧ (x5 ≤ (65536 : Int)))) : (inr (x0 + x5)) := by omega
theorem q_956 : ((inr (128 : Int)) ∧ ((0 : Int) < (128 : Int))) := by omega
theorem q_957 {x0 x1 x2 : Int} (h0 : (inr x0)) (h1 : (((0 : Int) ≤ x0) ∧ (x0 ≤ (x1 - x2)))) : ((inr x0) ∧ ((0 : Int) ≤ x0)) := by omega
theorem q_958 {x0 : Int} : (inr ((x0 % (128 : Int)) + (128 : Int))) := by omega
theorem q_959 {x0 x1 x2 : Int} (h0 : (x0 ≤ x1)) (h1 : (x2 = (x1 + (1 : Int)))) : (x0 ≤ x2) := by omega
theorem q_960 {x0 x1 x2 : Int} (h0 : ((128 : Int) ≤ x0)) (h1 : (((0 : Int) ≤ x1) ∧ ((x1 ≤ x2) ∧ (x2 ≤ (16384 : Int))))) (h2 : (((0 : Int) ≤ x0) ∧ (x0 ≤ (x2 - x1)))) : (((0 : Int) ≤ (x0 / (128 : Int))) ∧ ((x0 / (128 : Int)) ≤ (x2 - x1))) := by omega
theorem q_961 {x0 : Int} (h0 : ((128 : Int) ≤ x0)) (h1 : (inr x0)) : (inr (x0 / (128 : Int))) := by omega
theorem q_962 {x0 : Int} (h0 : ((128 : Int) ≤ x0)) : ((x0 / (128 : Int)) < x0) := by omega
theorem q_963 {x0 : Int} (h0 : ((128 : Int) ≤ x0)) : ((0 : Int) < x0) := by omega
theorem q_964 : (((0 : Int) ≤ (0 : Int)) ∧ ((0 : Int) ≤ (8000000 : Int))) := by omega
theorem q_965 {x0 : Int} (h0 : (x0 ≤ (16384 : Int))) (h1 : (((0 : Int) ≤ x0) ∧ (x0 ≤ (65536 : Int)))) : (((0 : Int) ≤ (0 : Int)) ∧ (((0 : Int) ≤ x0) ∧ (x0 ≤ (16384 : Int)))) := by omega
theorem q_966 {x0 x1 : Int} (h0 : (((0 : Int) ≤ x0) ∧ (x0 ≤ (((0 : Int) + ((10 : Int) * (x1 - (0 : Int)))) + (20 : Int))))) (h1 : (((-(2147483648 : Int)) ≤ x0) ∧ (x0 ≤ (2147483647 : Int)))) : (inr x0) := by omega
theorem q_967 {x0 x1 : Int} (h0 : (x0 ≤ (65536 : Int))) (h1 : (((0 : Int) ≤ x0) ∧ (x0 ≤ (((0 : Int) + ((10 : Int) * (x1 - (0 : Int)))) + (20 : Int))))) : (((0 : Int) ≤ x0) ∧ (x0 ≤ (65536 : Int))) := by omega
theorem q_968 {x0 x1 : Int} (h0 : (((0 : Int) ≤ x0) ∧ (x0 ≤ x1))) : ((x0 = (x0 + (0 : Int))) ∧ (x0 ≤ x1)) := by omega
theorem q_969 {x0 x1 : Int} (h0 : (x0 = (0 : Int))) : ((x0 = (0 : Int)) ∨ (x1 = x1)) := by omega
theorem q_970 {x0 : Int} (h0 : (x0 = (0 : Int))) : ((x0 = (0 : Int)) ∨ (x0 = x0)) := by omega
theorem q_971 {x0 x1 x2 x3 : Int} (h0 : ((0 : Int) ≤ x0)) (h1 : ((x1 = (x2 + x0)) ∧ (x1 ≤ x3))) : ((x2 ≤ x1) ∧ (x1 ≤ x3)) := by omega
theorem q_972 {x0 x1 x2 x3 x4 x5 : Int} (h0 : (x0 < x1)) (h1 : (x2 = x3)) (h2 : ((x2 = (x4 + x0)) ∧ (x2 ≤ x3))) : (((-(1 : Int)) = (-(1 : Int))) → ((x5 ≠ (0 : Int)) ∨ ((x4 + x1) > x3))) := by omega
theorem q_973 {x0 x1 x2 : Int} (h0 : (x0 = (0 : Int))) : ((x0 = (0 : Int)) ∨ (x1 = x2)) := by omega
theorem q_974 {x0 : Int} : ((x0 = (3 : Int)) → ((-(1 : Int)) ≤ (16777215 : Int))) := by omega
theorem q_975 {x0 : Int} : ((x0 = (2 : Int)) → ((-(1 : Int)) ≤ (65535 : Int))) := by omega
theorem q_976 {x0 : Int} : ((x0 = (1 : Int)) → ((-(1 : Int)) ≤ (255 : Int))) := by omega
theorem q_977 : ((-(1 : Int)) ≤ (4294967295 : Int)) := by omega
theorem q_978 {x0 x1 : Int} (h0 : (x0 = (0 : Int))) : ((x0 = (0 : Int)) ∨ (x1 = x0)) := by omega
theorem q_979 {x0 x1 x2 x3 x4 x5 : Int} (h0 : (x0 < x1)) (h1 : (x2 = x3)) (h2 : ((x2 = (x4 + x0)) ∧ (x2 ≤ x3))) : ((x5 ≠ (0 : Int)) ∨ (((x4 + x1) > x3) ∨ ((0 : Int) ≤ (-(1 : Int))))) := by omega
theorem q_980 {x0 x1 x2 x3 : Int} (h0 : (x0 = x1)) (h1 : (((0 : Int) ≤ x2) ∧ (x2 ≤ x1))) (h2 : ((x0 = (x2 + x3)) ∧ (x0 ≤ x1))) : ((x2 ≤ x0) ∧ (x0 ≤ x1)) := by omega
theorem q_981 : (inrJ (-(1 : Int))) := by omega
theorem q_982 {x0 x1 x2 x3 : Int} (h0 : (x0 ≠ (0 : Int))) : (((-(1 : Int)) = (-(1 : Int))) → ((x0 ≠ (0 : Int)) ∨ ((x1 + x2) > x3))) := by omega
theorem q_983 {x0 x1 : Int} : ((x0 = (0 : Int)) ∨ (x1 = x1)) := by omega
theorem q_984 {x0 x1 x2 : Int} (h0 : (x0 ≠ (0 : Int))) : ((x0 ≠ (0 : Int)) ∨ (((0 : Int) ≤ (-(1 : Int))) ∨ ((x0 = (1 : Int)) ∧ (x1 = x2)))) := by omega
theorem q_985 {x0 : Int} : ((x0 = (0 : Int)) ∨ (x0 = x0)) := by omega
theorem q_986 {x0 x1 x2 x3 : Int} (h0 : (x0 ≠ (0 : Int))) : ((x0 ≠ (0 : Int)) ∨ (((x1 + x2) > x3) ∨ ((0 : Int) ≤ (-(1 : Int))))) := by omega
theorem q_987 {x0 x1 x2 : Int} (h0 : (x0 ≠ (0 : Int))) : ((((-(1 : Int)) = (-(1 : Int))) ∧ (x0 ≠ (0 : Int))) ∨ (((0 : Int) ≤ (-(1 : Int))) ∧ ((x0 = (0 : Int)) ∧ (x1 = (x1 + x2))))) := by omega
theorem q_988 {x0 x1 : Int} (h0 : (((0 : Int) ≤ x0) ∧ (x0 ≤ x1))) : ((x0 ≤ x0) ∧ (x0 ≤ x1)) := by omega
theorem q_989 : (((0 : Int) ≤ (0 : Int)) ∧ ((0 : Int) ≤ (34359738367 : Int))) := by omega
theorem q_990 : (((0 : Int) ≤ (0 : Int)) ∧ ((0 : Int) ≤ (4 : Int))) := by omega
theorem q_991 {x0 x1 x2 x3 : Int} (h0 : ((x0 = (x1 + x2)) ∧ (x0 ≤ x3))) (h1 : (((0 : Int) ≤ x0) ∧ (x0 ≤ (65536 : Int)))) : (((0 : Int) ≤ x0) ∧ (x0 ≤ x3)) := by omega
theorem q_992 : (((0 : Int) ≤ (1 : Int)) ∧ ((1 : Int) ≤ (4 : Int))) := by omega
theorem q_993 : (inrJ (128 : Int)) := by omega
theorem q_994 {x0 x1 x2 x3 x4 : Int} (h0 : ((x0 = (x1 + (x2 * x3))) ∧ ((x0 < x4) ∧ (((0 : Int) ≤ x0) ∧ (x0 ≤ (34359738367 : Int)))))) : (((0 : Int) ≤ x0) ∧ (x0 ≤ (34359738367 : Int))) := by omega
theorem q_995 {x0 : Int} (h0 : (x0 < (5 : Int))) (h1 : (((0 : Int) ≤ x0) ∧ (x0 ≤ (4 : Int)))) : (inr (x0 + (1 : Int))) := by omega
theorem q_996 {x0 : Int} : (((5 : Int) - (x0 + (1 : Int))) < ((5 : Int) - x0)) := by omega
theorem q_997 {x0 : Int} (h0 : (x0 < (5 : Int))) : ((0 : Int) < ((5 : Int) - x0)) := by omega
theorem q_998 {x0 x1 x2 x3 x4 : Int} (h0 : (((x0 = (0 : Int)) ∧ (x1 ≤ x2)) ∨ ((x0 = (3 : Int)) ∧ ((x3 = x4) ∧ (x2 < x1))))) : (((0 : Int) ≤ x0) ∧ (x0 ≤ (20 : Int))) := by omega
theorem q_999 {x0 : Int} (h0 : (x0 ≠ (0 : Int))) : ((((-(1 : Int)) = (-(1 : Int))) ∧ (x0 ≠ (0 : Int))) ∨ (((0 : Int) ≤ (-(1 : Int))) ∧ (x0 = (0 : Int)))) := by omega
theorem q_1000 {x0 : Int} (h0 : (((0 : Int) ≤ x0) ∧ (x0 ≤ (65536 : Int)))) : (((-(1 : Int)) ≤ (-(1 : Int))) ∧ ((-(1 : Int)) ≤ x0)) := by omega
theorem q_1001 {x0 x1 x2 x3 x4 : Int} (h0 : (((0 : Int) ≤ x0) ∧ (x0 ≤ (4 : Int)))) (h1 : ((x1 = (x2 + x0)) ∧ (x1 ≤ x3))) (h2 : ((x1 ≤ x4) ∧ (x4 ≤ x3))) : ((x2 ≤ x4) ∧ (x4 ≤ x3)) := by omega
theorem q_1002 {x0 : Int} (h0 : (x0 = (0 : Int))) : (((0 : Int) ≤ x0) ∧ (x0 ≤ (20 : Int))) := by omega
theorem q_1003 {x0 x1 x2 x3 x4 x5 : Int} (h0 : (x0 = (0 : Int))) (h1 : ((x1 = (x2 + (x3 * x4))) ∧ ((x1 < x5) ∧ (((0 : Int) ≤ x1) ∧ (x1 ≤ (34359738367 : Int)))))) : (((x1 = (-(1 : Int))) ∧ (x0 ≠ (0 : Int))) ∨ (((0 : Int) ≤ x1) ∧ (x0 = (0 : Int)))) := by omega
theorem q_1004 {x0 x1 x2 x3 x4 x5 x6 x7 x8 : Int} (h0 : (x0 = (0 : Int))) (h1 : (((0 : Int) ≤ x1) ∧ (x1 ≤ (65536 : Int)))) (h2 : ((x2 = (x3 + (x4 * x5))) ∧ ((x2 < x6) ∧ (((0 : Int) ≤ x2) ∧ (x2 ≤ (34359738367 : Int)))))) (h3 : (((x0 = (0 : Int)) ∧ (x2 ≤ x1)) ∨ ((x0 = (3 : Int)) ∧ ((x7 = x8) ∧ (x1 < x2))))) : (((-(1 : Int)) ≤ x2) ∧ (x2 ≤ x1)) := by omega
theorem q_1005 : (inrJ (15 : Int)) := by omega
theorem q_1006 {x0 : Int} (h0 : (x0 = (4 : Int))) : (inr (x0 + (1 : Int))) := by omega
theorem q_1007 {x0 : Int} (h0 : (x0 = (4 : Int))) : ((0 : Int) < ((5 : Int) - x0)) := by omega
theorem q_1008 {x0 x1 x2 x3 x4 : Int} (h0 : (x0 = (4 : Int))) (h1 : ((x1 = (x2 + x0)) ∧ (x1 ≤ x3))) (h2 : ((x1 ≤ x4) ∧ (x4 ≤ x3))) (h3 : (((0 : Int) ≤ x2) ∧ (x2 ≤ (65536 : Int)))) (h4 : (((0 : Int) ≤ x4) ∧ (x4 ≤ (65536 : Int)))) : ((x2 ≤ x4) ∧ (x4 ≤ x3)) := by omega
theorem q_1009 {x0 x1 x2 x3 x4 x5 x6 x7 x8 : Int} (h0 : ((((0 : Int) ≤ x0) ∧ ((x0 ≤ (255 : Int)) ∧ ((x1 = (0 : Int)) ∧ (x2 = (x3 + (1 : Int)))))) ∨ ((x0 = (-(1 : Int))) ∧ ((x1 = (1 : Int)) ∧ ((x4 = x5) ∧ (x5 < (x3 + (1 : Int)))))))) (h1 : (((x1 = (0 : Int)) ∧ ((x6 = (2 : Int)) ∧ (x7 = x8))) ∨ ((x1 ≠ (0 : Int)) ∧ ((x6 = x1) ∧ (x7 = x4))))) : (((0 : Int) ≤ x6) ∧ (x6 ≤ (20 : Int))) := by omega
theorem q_1010 {x0 x1 x2 x3 x4 x5 : Int} (h0 : ((((0 : Int) ≤ x0) ∧ ((x0 ≤ (255 : Int)) ∧ ((x1 = (0 : Int)) ∧ (x2 = (x3 + (1 : Int)))))) ∨ ((x0 = (-(1 : Int))) ∧ ((x1 = (1 : Int)) ∧ ((x4 = x5) ∧ (x5 < (x3 + (1 : Int)))))))) : (((0 : Int) ≤ x1) ∧ (x1 ≤ (20 : Int))) := by omega
theorem q_1011 {x0 x1 x2 x3 : Int} (h0 : (x0 = (0 : Int))) : ((x0 = (0 : Int)) ∨ ((x1 = x0) ∧ (x2 = x3))) := by omega
theorem q_1012 {x0 x1 x2 x3 x4 x5 x6 x7 : Int} (h0 : (x0 = (0 : Int))) (h1 : (((0 : Int) ≤ x1) ∧ ((x1 ≤ x2) ∧ (x2 ≤ (70000 : Int))))) (h2 : (((-(1000 : Int)) ≤ x3) ∧ (x3 ≤ (10000000000 : Int)))) (h3 : (((0 : Int) ≤ x4) ∧ (x4 ≤ (100 : Int)))) (h4 : (((-(1 : Int)) ≤ x5) ∧ (x5 ≤ (65536 : Int)))) (h5 : (x6 = (0 : Int))) (h6 : (((-(2147483648 : Int)) ≤ x7) ∧ (x7 ≤ (2147483647 : Int)))) : ((x6 = (1 : Int)) → ((x0 = (0 : Int)) ∧ ((x7 = (0 : Int)) ∧ (((1 : Int) ≤ x3) ∧ ((x3 ≤ (x2 - x1)) ∧ (((x2 - x1) + x4) ≤ x5)))))) := by omega
theorem q_1013 {x0 x1 : Int} (h0 : (((0 : Int) ≤ x0) ∧ ((x0 ≤ x1) ∧ (x1 ≤ (70000 : Int))))) : (inrJ (x1 - x0)) := by omega
theorem q_1014 {x0 x1 x2 x3 x4 x5 x6 x7 : Int} : ((x0 ≠ (0 : Int)) ∨ (((1 : Int) = (1 : Int)) ∨ ((x1 = x2) ∧ (((x0 = (4 : Int)) ∧ ((x3 = (0 : Int)) ∨ ((x4 - x5) < x3))) ∨ ((x0 = (5 : Int)) ∧ (((1 : Int) ≤ x3) ∧ ((x3 ≤ (x4 - x5)) ∧ (x6 < ((x4 - x5) + x7))))))))) := by omega
theorem q_1015 {x0 x1 : Int} (h0 : (x0 = (0 : Int))) : ((x0 = (0 : Int)) ∨ ((x0 = x0) ∧ (x1 = x1))) := by omega
theorem q_1016 {x0 x1 x2 x3 x4 x5 x6 : Int} (h0 : (x0 = (0 : Int))) (h1 : (((0 : Int) ≤ x1) ∧ ((x1 ≤ x2) ∧ (x2 ≤ (70000 : Int))))) (h2 : (((-(1000 : Int)) ≤ x3) ∧ (x3 ≤ (10000000000 : Int)))) (h3 : (((0 : Int) ≤ x4) ∧ (x4 ≤ (100 : Int)))) (h4 : (((-(1 : Int)) ≤ x5) ∧ (x5 ≤ (65536 : Int)))) (h5 : (((-(2147483648 : Int)) ≤ x6) ∧ (x6 ≤ (2147483647 : Int)))) : (((0 : Int) = (1 : Int)) → ((x0 = (0 : Int)) ∧ ((x6 = (0 : Int)) ∧ (((1 : Int) ≤ x3) ∧ ((x3 ≤ (x2 - x1)) ∧ (((x2 - x1) + x4) ≤ x5)))))) := by omega
theorem q_1017 {x0 x1 x2 x3 x4 x5 x6 x7 x8 : Int} : ((x0 ≠ (0 : Int)) ∨ (((1 : Int) = (1 : Int)) ∨ ((x1 = x2) ∧ (((x3 = (4 : Int)) ∧ ((x4 = (0 : Int)) ∨ ((x5 - x6) < x4))) ∨ ((x3 = (5 : Int)) ∧ (((1 : Int) ≤ x4) ∧ ((x4 ≤ (x5 - x6)) ∧ (x7 < ((x5 - x6) + x8))))))))) := by omega
theorem q_1018 {x0 x1 x2 x3 x4 x5 x6 x7 : Int} (h0 : (x0 ≠ (0 : Int))) : ((x0 ≠ (0 : Int)) ∨ (((0 : Int) = (1 : Int)) ∨ ((x1 = x2) ∧ (((x0 = (4 : Int)) ∧ ((x3 = (0 : Int)) ∨ ((x4 - x5) < x3))) ∨ ((x0 = (5 : Int)) ∧ (((1 : Int) ≤ x3) ∧ ((x3 ≤ (x4 - x5)) ∧ (x6 < ((x4 - x5) + x7))))))))) := by omega
theorem q_1019 {x0 x1 : Int} : ((x0 = (0 : Int)) ∨ ((x0 = x0) ∧ (x1 = x1))) := by omega
theorem q_1020 {x0 x1 x2 x3 x4 x5 : Int} (h0 : (((0 : Int) ≤ x0) ∧ ((x0 ≤ x1) ∧ (x1 ≤ (70000 : Int))))) (h1 : (((-(1000 : Int)) ≤ x2) ∧ (x2 ≤ (10000000000 : Int)))) (h2 : (((0 : Int) ≤ x3) ∧ (x3 ≤ (100 : Int)))) (h3 : (((-(1 : Int)) ≤ x4) ∧ (x4 ≤ (65536 : Int)))) (h4 : (((-(2147483648 : Int)) ≤ x5) ∧ (x5 ≤ (2147483647 : Int)))) : (((0 : Int) = (1 : Int)) → ((x5 = (0 : Int)) ∧ ((x5 = (0 : Int)) ∧ (((1 : Int) ≤ x2) ∧ ((x2 ≤ (x1 - x0)) ∧ (((x1 - x0) + x3) ≤ x4)))))) := by omega
theorem q_1021 {x0 x1 x2 x3 x4 x5 x6 x7 : Int} (h0 : (((0 : Int) ≤ x0) ∧ (x0 ≤ (63 : Int)))) (h1 : ((x1 = (x2 + (1 : Int))) ∧ ((x2 < x3) ∧ ((0 : Int) ≤ x2)))) (h2 : (((x0 < (60 : Int)) ∧ (x4 = (0 : Int))) ∨ (((60 : Int) ≤ x0) ∧ (x4 = (x0 - (59 : Int)))))) (h3 : ((x1 ≤ x5) ∧ (x5 ≤ x3))) (h4 : (((x6 = (0 : Int)) ∧ (x5 = ((x2 + (1 : Int)) + x4))) ∨ ((x6 = (1 : Int)) ∧ ((x7 = x3) ∧ (x3 < ((x2 + (1 : Int)) + x4)))))) : (((0 : Int) ≤ x4) ∧ (x4 ≤ (4 : Int))) := by omega
theorem q_1022 {x0 x1 x2 : Int} (h0 : (((0 : Int) ≤ x0) ∧ ((x0 ≤ x1) ∧ ((x1 ≤ (x0 + x2)) ∧ ((x0 + x2) ≤ (65536 : Int)))))) : (inr (x1 - x0)) := by omega
theorem q_1023 {x0 : Int} : ((x0 ≤ x0) ∧ (x0 ≤ (x0 + (0 : Int)))) := by omega
theorem q_1024 {x0 x1 x2 : Int} (h0 : ((x0 ≤ x1) ∧ (x1 ≤ x2))) : ((x1 ≤ x1) ∧ (x1 ≤ x2)) := by omega
theorem q_1025 {x0 : Int} (h0 : (((0 : Int) ≤ x0) ∧ (x0 ≤ (4294967296 : Int)))) : (((0 : Int) ≤ (0 : Int)) ∧ ((0 : Int) ≤ x0)) := by omega
theorem q_1026 {x0 x1 x2 x3 x4 x5 x6 x7 x8 : Int} (h0 : (((x0 = (0 : Int)) ∧ ((x1 = (x2 + x3)) ∧ (x4 = (x5 + x3)))) ∨ ((x0 = (1 : Int)) ∧ ((x6 = x7) ∧ (x7 < (x2 + x8)))))) : (((0 : Int) ≤ x0) ∧ (x0 ≤ (20 : Int))) := by omega
theorem q_1027 {x0 x1 x2 x3 : Int} (h0 : ((x0 ≤ x1) ∧ (x1 ≤ x2))) (h1 : ((x3 ≤ x0) ∧ (x0 ≤ x2))) : ((x3 ≤ x1) ∧ (x1 ≤ x2)) := by omega
theorem q_1028 {x0 x1 x2 : Int} (h0 : ((x0 ≤ x1) ∧ (x1 ≤ x2))) (h1 : (((0 : Int) ≤ x1) ∧ (x1 ≤ (65536 : Int)))) : (((0 : Int) ≤ x1) ∧ (x1 ≤ x2)) := by omega
theorem q_1029 {x0 x1 x2 : Int} (h0 : ((x0 ≤ x1) ∧ (x1 ≤ (x0 + x2)))) : ((x0 ≤ x1) ∧ (x1 ≤ (x0 + (x2 + (1 : Int))))) := by omega
theorem q_1030 {x0 x1 x2 x3 x4 x5 : Int} (h0 : ((((0 : Int) ≤ x0) ∧ ((x0 ≤ (255 : Int)) ∧ ((x1 = (0 : Int)) ∧ (x2 = (x3 + (1 : Int)))))) ∨ ((x0 = (-(1 : Int))) ∧ ((x1 = (1 : Int)) ∧ ((x4 = x5) ∧ (x5 < (x3 + (1 : Int)))))))) : (inr x0) := by omega
theorem q_1031 {x0 x1 x2 x3 : Int} (h0 : ((x0 ≤ x1) ∧ (x1 ≤ (x0 + x2)))) (h1 : (x3 = (x1 + (1 : Int)))) : ((x0 ≤ x3) ∧ (x3 ≤ (x0 + (x2 + (1 : Int))))) := by omega
theorem q_1032 {x0 x1 x2 x3 x4 : Int} (h0 : (x0 = (0 : Int))) (h1 : (((x0 = (0 : Int)) ∧ ((x1 = (5 : Int)) ∧ (x2 = x3))) ∨ ((x0 ≠ (0 : Int)) ∧ ((x1 = x0) ∧ (x2 = x4))))) : (((0 : Int) ≤ x1) ∧ (x1 ≤ (20 : Int))) := by omega
theorem q_1033 {x0 x1 x2 : Int} (h0 : (((0 : Int) ≤ x0) ∧ ((x0 ≤ x1) ∧ ((x1 ≤ (x0 + x2)) ∧ ((x0 + x2) ≤ (65536 : Int)))))) : ((x1 ≤ x1) ∧ (x1 ≤ (x0 + x2))) := by omega
theorem q_1034 {x0 x1 x2 x3 x4 x5 : Int} (h0 : (((x0 = (0 : Int)) ∧ (x1 = ((x2 + (1 : Int)) + x3))) ∨ ((x0 = (1 : Int)) ∧ ((x4 = x5) ∧ (x5 < ((x2 + (1 : Int)) + x3)))))) : (((0 : Int) ≤ x0) ∧ (x0 ≤ (20 : Int))) := by omega
theorem q_1035 {x0 : Int} (h0 : ((60 : Int) ≤ x0)) (h1 : (((0 : Int) ≤ x0) ∧ (x0 ≤ (63 : Int)))) : (((0 : Int) ≤ (x0 - (59 : Int))) ∧ ((x0 - (59 : Int)) ≤ (4 : Int))) := by omega
theorem q_1036 {x0 : Int} (h0 : ((60 : Int) ≤ x0)) (h1 : (((0 : Int) ≤ x0) ∧ (x0 ≤ (63 : Int)))) : (inr (x0 - (59 : Int))) := by omega
theorem q_1037 {x0 x1 x2 x3 x4 x5 x6 : Int} (h0 : (((x0 = (0 : Int)) ∧ (((0 : Int) ≤ x1) ∧ ((x1 ≤ (4294967295 : Int)) ∧ (x2 = ((x3 + (1 : Int)) + x4))))) ∨ ((x1 = (-(1 : Int))) ∧ ((x0 = (1 : Int)) ∧ ((x5 = x6) ∧ (x6 < ((x3 + (1 : Int)) + x4))))))) (h1 : (x1 ≤ (4294967295 : Int))) : (((0 : Int) ≤ (x1 + (1 : Int))) ∧ ((x1 + (1 : Int)) ≤ (4294967296 : Int))) := by omega
theorem q_1038 {x0 : Int} (h0 : (x0 < (60 : Int))) (h1 : (((0 : Int) ≤ x0) ∧ (x0 ≤ (63 : Int)))) : (((0 : Int) ≤ (x0 + (1 : Int))) ∧ ((x0 + (1 : Int)) ≤ (4294967296 : Int))) := by omega
theorem q_1039 {x0 x1 : Int} (h0 : (x0 < (60 : Int))) (h1 : (((0 : Int) ≤ x0) ∧ (x0 ≤ (63 : Int)))) : ((((1 : Int) ≤ (x0 + (1 : Int))) ∧ ((x0 + (1 : Int)) ≤ (4294967296 : Int))) ∨ (x1 ≠ (0 : Int))) := by omega
theorem q_1040 {x0 : Int} (h0 : (x0 < (60 : Int))) (h1 : (((0 : Int) ≤ x0) ∧ (x0 ≤ (63 : Int)))) : (inrJ (x0 + (1 : Int))) := by omega
theorem q_1041 {x0 x1 x2 : Int} (h0 : (((1 : Int) ≤ x0) ∧ ((x0 ≤ (3 : Int)) ∧ (((0 : Int) ≤ x1) ∧ (x1 ≤ (63 : Int)))))) (h1 : (((x0 ≠ (3 : Int)) ∧ (x2 = x0)) ∨ ((x0 = (3 : Int)) ∧ (x2 = (4 : Int))))) : (((0 : Int) ≤ x2) ∧ (x2 ≤ (4 : Int))) := by omega
theorem q_1042 {x0 x1 x2 : Int} (h0 : (((0 : Int) ≤ x0) ∧ ((x0 ≤ x1) ∧ ((x1 ≤ (x0 + x2)) ∧ ((x0 + x2) ≤ (65536 : Int)))))) : (((-(1 : Int)) ≤ x2) ∧ (x2 ≤ (65536 : Int))) := by omega
theorem q_1043 {x0 x1 x2 : Int} (h0 : (((1 : Int) ≤ x0) ∧ ((x0 ≤ (3 : Int)) ∧ (((0 : Int) ≤ x1) ∧ (x1 ≤ (63 : Int)))))) (h1 : (((x0 ≠ (1 : Int)) ∧ (x2 = (x1 + (1 : Int)))) ∨ ((x0 = (1 : Int)) ∧ (x2 = ((x1 % (8 : Int)) + (4 : Int)))))) : (((0 : Int) ≤ x2) ∧ (x2 ≤ (100 : Int))) := by omega
theorem q_1044 {x0 x1 x2 x3 x4 x5 x6 x7 x8 x9 : Int} (h0 : (((1 : Int) ≤ x0) ∧ ((x0 ≤ (3 : Int)) ∧ (((0 : Int) ≤ x1) ∧ (x1 ≤ (63 : Int)))))) (h1 : (((x2 = (0 : Int)) ∧ (((0 : Int) ≤ x3) ∧ ((x3 ≤ (4294967295 : Int)) ∧ (x4 = ((x5 + (1 : Int)) + x6))))) ∨ ((x3 = (-(1 : Int))) ∧ ((x2 = (1 : Int)) ∧ ((x7 = x8) ∧ (x8 < ((x5 + (1 : Int)) + x6))))))) (h2 : (((x0 ≠ (1 : Int)) ∧ (x9 = x3)) ∨ ((x0 = (1 : Int)) ∧ (x9 = (x3 + ((256 : Int) * (x1 / (8 : Int)))))))) (h3 : (x3 ≤ (4294967295 : Int))) : (((-(1000 : Int)) ≤ x9) ∧ (x9 ≤ (10000000000 : Int))) := by omega
theorem q_1045 {x0 x1 x2 : Int} (h0 : (((0 : Int) ≤ x0) ∧ ((x0 ≤ x1) ∧ ((x1 ≤ (x0 + x2)) ∧ ((x0 + x2) ≤ (65536 : Int)))))) : (((0 : Int) ≤ x0) ∧ ((x0 ≤ x1) ∧ (x1 ≤ (70000 : Int)))) := by omega
theorem q_1046 {x0 x1 x2 x3 x4 x5 x6 x7 x8 x9 x10 x11 : Int} (h0 : (((1 : Int) ≤ x0) ∧ ((x0 ≤ (3 : Int)) ∧ (((0 : Int) ≤ x1) ∧ (x1 ≤ (63 : Int)))))) (h1 : (((x0 ≠ (1 : Int)) ∧ (x2 = (x1 + (1 : Int)))) ∨ ((x0 = (1 : Int)) ∧ (x2 = ((x1 % (8 : Int)) + (4 : Int)))))) (h2 : ((x3 ≠ (0 : Int)) ∨ ((x4 = (1 : Int)) ∨ ((x5 = x6) ∧ (((x7 = (4 : Int)) ∧ ((x8 = (0 : Int)) ∨ ((x9 - x10) < x8))) ∨ ((x7 = (5 : Int)) ∧ (((1 : Int) ≤ x8) ∧ ((x8 ≤ (x9 - x10)) ∧ (x11 < ((x9 - x10) + x2)))))))))) : (((0 : Int) ≤ (0 : Int)) ∧ ((0 : Int) ≤ x2)) := by omega
theorem q_1047 {x0 x1 : Int} (h0 : (inr x0)) (h1 : (((0 : Int) ≤ x0) ∧ (x0 ≤ x1))) : (inrJ x0) := by omega
theorem q_1048 {x0 x1 x2 x3 x4 x5 x6 x7 : Int} (h0 : (x0 ≠ (0 : Int))) (h1 : ((x0 = (0 : Int)) ∨ (x0 = (1 : Int)))) (h2 : ((x0 = (1 : Int)) → ((x1 = (0 : Int)) ∧ ((x2 = (0 : Int)) ∧ (((1 : Int) ≤ x3) ∧ ((x3 ≤ (x4 - x5)) ∧ (((x4 - x5) + x6) ≤ x7))))))) : (((0 : Int) ≤ x2) ∧ (x2 ≤ (20 : Int))) := by omega
theorem q_1049 {x0 x1 x2 x3 x4 x5 x6 x7 x8 x9 : Int} (h0 : (x0 ≠ (0 : Int))) (h1 : (((0 : Int) ≤ x1) ∧ (x1 ≤ x2))) (h2 : (x3 = (x4 + x1))) (h3 : ((x0 = (0 : Int)) ∨ (x0 = (1 : Int)))) (h4 : ((x0 = (1 : Int)) → ((x5 = (0 : Int)) ∧ ((x6 = (0 : Int)) ∧ (((1 : Int) ≤ x7) ∧ ((x7 ≤ (x4 - x8)) ∧ (((x4 - x8) + x2) ≤ x9))))))) : ((x4 ≤ x3) ∧ (x3 ≤ (x8 + x9))) := by omega
theorem q_1050 {x0 x1 x2 x3 x4 x5 x6 x7 x8 x9 : Int} (h0 : (x0 ≠ (0 : Int))) (h1 : (((0 : Int) ≤ x1) ∧ ((x1 ≤ x2) ∧ ((x2 ≤ (x1 + x3)) ∧ ((x1 + x3) ≤ (65536 : Int)))))) (h2 : (((0 : Int) ≤ x4) ∧ (x4 ≤ x5))) (h3 : (x6 = (x2 + x4))) (h4 : ((x0 = (0 : Int)) ∨ (x0 = (1 : Int)))) (h5 : ((x0 = (1 : Int)) → ((x7 = (0 : Int)) ∧ ((x8 = (0 : Int)) ∧ (((1 : Int) ≤ x9) ∧ ((x9 ≤ (x2 - x1)) ∧ (((x2 - x1) + x5) ≤ x3))))))) : (((0 : Int) ≤ (x6 - x9)) ∧ ((x6 - x9) < ((70000 : Nat) : Int))) := by omega
theorem q_1051 {x0 x1 x2 x3 x4 x5 x6 x7 x8 x9 : Int} (h0 : (x0 ≠ (0 : Int))) (h1 : (((0 : Int) ≤ x1) ∧ ((x1 ≤ x2) ∧ ((x2 ≤ (x1 + x3)) ∧ ((x1 + x3) ≤ (65536 : Int)))))) (h2 : (((0 : Int) ≤ x4) ∧ (x4 ≤ x5))) (h3 : (x6 = (x2 + x4))) (h4 : ((x0 = (0 : Int)) ∨ (x0 = (1 : Int)))) (h5 : ((x0 = (1 : Int)) → ((x7 = (0 : Int)) ∧ ((x8 = (0 : Int)) ∧ (((1 : Int) ≤ x9) ∧ ((x9 ≤ (x2 - x1)) ∧ (((x2 - x1) + x5) ≤ x3))))))) : (((0 : Int) ≤ x6) ∧ (x6 ≤ (100000000 : Int))) := by omega
theorem q_1052 {x0 x1 x2 x3 x4 x5 x6 x7 x8 : Int} (h0 : (x0 ≠ (0 : Int))) (h1 : (((0 : Int) ≤ x1) ∧ ((x1 ≤ x2) ∧ ((x2 ≤ (x1 + x3)) ∧ ((x1 + x3) ≤ (65536 : Int)))))) (h2 : (((0 : Int) ≤ x4) ∧ (x4 ≤ x5))) (h3 : ((x0 = (0 : Int)) ∨ (x0 = (1 : Int)))) (h4 : ((x0 = (1 : Int)) → ((x6 = (0 : Int)) ∧ ((x7 = (0 : Int)) ∧ (((1 : Int) ≤ x8) ∧ ((x8 ≤ (x2 - x1)) ∧ (((x2 - x1) + x5) ≤ x3))))))) : (inr (x4 + (1 : Int))) := by omega
theorem q_1053 {x0 x1 x2 : Int} (h0 : (x0 ≠ (1 : Int))) : (((x0 ≠ (1 : Int)) ∧ (x1 = x1)) ∨ ((x0 = (1 : Int)) ∧ (x1 = (x1 + ((256 : Int) * (x2 / (8 : Int))))))) := by omega
theorem q_1054 : ((inr (8 : Int)) ∧ ((0 : Int) < (8 : Int))) := by omega
theorem q_1055 {x0 x1 : Int} (h0 : (inr x0)) (h1 : (((1 : Int) ≤ x1) ∧ ((x1 ≤ (3 : Int)) ∧ (((0 : Int) ≤ x0) ∧ (x0 ≤ (63 : Int)))))) : ((inr x0) ∧ ((0 : Int) ≤ x0)) := by omega
theorem q_1056 {x0 x1 : Int} (h0 : (((1 : Int) ≤ x0) ∧ ((x0 ≤ (3 : Int)) ∧ (((0 : Int) ≤ x1) ∧ (x1 ≤ (63 : Int)))))) : (inr (x1 / (8 : Int))) := by omega
theorem q_1057 {x0 x1 x2 : Int} (h0 : (x0 = (1 : Int))) : (((x0 ≠ (1 : Int)) ∧ ((x1 + ((256 : Int) * (x2 / (8 : Int)))) = x1)) ∨ ((x0 = (1 : Int)) ∧ ((x1 + ((256 : Int) * (x2 / (8 : Int)))) = (x1 + ((256 : Int) * (x2 / (8 : Int))))))) := by omega
theorem q_1058 {x0 : Int} (h0 : (x0 ≠ (3 : Int))) : (((x0 ≠ (3 : Int)) ∧ (x0 = x0)) ∨ ((x0 = (3 : Int)) ∧ (x0 = (4 : Int)))) := by omega
theorem q_1059 {x0 : Int} (h0 : (x0 = (3 : Int))) : (((x0 ≠ (3 : Int)) ∧ ((4 : Int) = x0)) ∨ ((x0 = (3 : Int)) ∧ ((4 : Int) = (4 : Int)))) := by omega
theorem q_1060 {x0 x1 : Int} (h0 : (((1 : Int) ≤ x0) ∧ ((x0 ≤ (3 : Int)) ∧ (((0 : Int) ≤ x1) ∧ (x1 ≤ (63 : Int)))))) : (inr (x1 + (1 : Int))) := by omega
theorem q_1061 {x0 x1 : Int} (h0 : (x0 ≠ (1 : Int))) : (((x0 ≠ (1 : Int)) ∧ ((x1 + (1 : Int)) = (x1 + (1 : Int)))) ∨ ((x0 = (1 : Int)) ∧ ((x1 + (1 : Int)) = ((x1 % (8 : Int)) + (4 : Int))))) := by omega
theorem q_1062 {x0 x1 : Int} (h0 : (((1 : Int) ≤ x0) ∧ ((x0 ≤ (3 : Int)) ∧ (((0 : Int) ≤ x1) ∧ (x1 ≤ (63 : Int)))))) : (inrJ (x1 + (1 : Int))) := by omega
theorem q_1063 {x0 : Int} : (inr ((x0 % (8 : Int)) + (4 : Int))) := by omega
theorem q_1064 {x0 x1 : Int} (h0 : (x0 = (1 : Int))) : (((x0 ≠ (1 : Int)) ∧ (((x1 % (8 : Int)) + (4 : Int)) = (x1 + (1 : Int)))) ∨ ((x0 = (1 : Int)) ∧ (((x1 % (8 : Int)) + (4 : Int)) = ((x1 % (8 : Int)) + (4 : Int))))) := by omega
theorem q_1065 {x0 : Int} : (inrJ ((x0 % (8 : Int)) + (4 : Int))) := by omega
theorem q_1066 {x0 x1 : Int} (h0 : (((0 : Int) ≤ x0) ∧ (((0 : Int) ≤ x1) ∧ ((x1 + x0) ≤ (65536 : Int))))) : (((0 : Int) ≤ x0) ∧ (x0 ≤ (65536 : Int))) := by omega
theorem q_1067 {x0 x1 : Int} (h0 : (((0 : Int) ≤ x0) ∧ (((0 : Int) ≤ x1) ∧ ((x1 + x0) ≤ (65536 : Int))))) : ((x1 ≤ x1) ∧ (x1 ≤ (x1 + x0))) := by omega
theorem q_1068 {x0 : Int} (h0 : (((0 : Int) ≤ x0) ∧ (x0 ≤ (20 : Int)))) : (inr x0) := by omega
theorem q_1069 {x0 x1 x2 : Int} (h0 : (((0 : Int) ≤ x0) ∧ (((0 : Int) ≤ x1) ∧ ((x1 + x0) ≤ (65536 : Int))))) (h1 : ((x1 ≤ x2) ∧ (x2 ≤ (x1 + x0)))) : (inr (x2 - x1)) := by omega
theorem q_1070 {x0 x1 x2 : Int} (h0 : (((0 : Int) ≤ x0) ∧ (((0 : Int) ≤ x1) ∧ ((x1 + x0) ≤ (65536 : Int))))) (h1 : ((x1 ≤ x2) ∧ (x2 ≤ (x1 + x0)))) : (inrJ (x2 - x1)) := by omega
theorem q_1071 {x0 x1 x2 x3 x4 : Int} (h0 : (x0 = (0 : Int))) (h1 : (((x0 = (0 : Int)) ∧ ((x1 = (6 : Int)) ∧ (x2 = x3))) ∨ ((x0 ≠ (0 : Int)) ∧ ((x1 = x0) ∧ (x2 = x4))))) : (((0 : Int) ≤ x1) ∧ (x1 ≤ (20 : Int))) := by omega
theorem q_1072 {x0 x1 x2 : Int} (h0 : (x0 ≠ (0 : Int))) : ((x0 ≠ (0 : Int)) ∨ ((x0 = (0 : Int)) ∧ (x1 ≥ x2))) := by omega
theorem q_1073 {x0 x1 x2 : Int} (h0 : (x0 = (0 : Int))) (h1 : (x1 ≤ x2)) : ((x0 ≠ (0 : Int)) ∨ ((x0 = (0 : Int)) ∧ (x2 ≥ x1))) := by omega
theorem q_1074 : ((inr (4 : Int)) ∧ ((0 : Int) < (4 : Int))) := by omega
theorem q_1075 {x0 : Int} : (inr (x0 % (4 : Int))) := by omega
theorem q_1076 {x0 x1 x2 x3 x4 x5 x6 : Int} (h0 : ((x0 ≠ (0 : Int)) ∨ (((0 : Int) ≤ x1) ∨ ((x2 = (1 : Int)) ∧ (x3 = x4))))) (h1 : (((x1 = (-(1 : Int))) ∧ (x2 ≠ (0 : Int))) ∨ (((0 : Int) ≤ x1) ∧ ((x2 = (0 : Int)) ∧ (x5 = (x6 + (1 : Int))))))) (h2 : (x1 ≤ (4294967295 : Int))) : (inr (x1 / (4 : Int))) := by omega
theorem q_1077 {x0 x1 : Int} (h0 : (((0 : Int) ≤ x0) ∧ (((0 : Int) ≤ x1) ∧ ((x1 + x0) ≤ (65536 : Int))))) : (inr x1) := by omega
theorem q_1078 {x0 x1 x2 x3 x4 : Int} (h0 : ((x0 ≤ x1) ∧ (x1 ≤ (x2 + x3)))) : ((x4 ≠ (0 : Int)) ∨ (x1 ≤ (x2 + x3))) := by omega
theorem q_1079 {x0 x1 x2 x3 x4 : Int} (h0 : ((x0 ≤ x1) ∧ (x1 ≤ (x0 + x2)))) (h1 : ((x1 ≤ x3) ∧ (x3 ≤ (x0 + x4)))) (h2 : (((-(1 : Int)) ≤ x4) ∧ (x4 ≤ x2))) : ((x0 ≤ x3) ∧ (x3 ≤ (x0 + x2))) := by omega
theorem q_1080 {x0 x1 x2 x3 x4 : Int} (h0 : ((x0 ≤ x1) ∧ (x1 ≤ x2))) (h1 : ((x1 ≤ x3) ∧ (x3 ≤ x2))) (h2 : ((x3 ≤ x4) ∧ (x4 ≤ x2))) : ((x0 ≤ x4) ∧ (x4 ≤ x2)) := by omega
theorem q_1081 {x0 x1 x2 x3 x4 x5 x6 : Int} (h0 : ((x0 % (4 : Int)) = (0 : Int))) (h1 : ((x1 ≠ (0 : Int)) ∨ (((0 : Int) ≤ x0) ∨ ((x2 = (1 : Int)) ∧ (x3 = x4))))) (h2 : (((x0 = (-(1 : Int))) ∧ (x2 ≠ (0 : Int))) ∨ (((0 : Int) ≤ x0) ∧ ((x2 = (0 : Int)) ∧ (x5 = (x6 + (1 : Int))))))) (h3 : (x0 ≤ (4294967295 : Int))) : (inr (x0 / (4 : Int))) := by omega
theorem q_1082 {x0 x1 x2 : Int} (h0 : (((0 : Int) ≤ x0) ∧ ((x0 < x1) ∧ (((0 : Int) ≤ x2) ∧ (x2 ≤ (255 : Int)))))) (h1 : (((0 : Int) ≤ x1) ∧ (x1 ≤ (65536 : Int)))) : (inr (x0 + (4 : Int))) := by omega
theorem q_1083 {x0 x1 x2 : Int} (h0 : ((x0 + (4 : Int)) ≤ x1)) (h1 : (((0 : Int) ≤ x0) ∧ ((x0 < x1) ∧ (((0 : Int) ≤ x2) ∧ (x2 ≤ (255 : Int)))))) (h2 : (((0 : Int) ≤ x1) ∧ (x1 ≤ (65536 : Int)))) : (((0 : Int) ≤ (x0 + (1 : Int))) ∧ ((x0 + (1 : Int)) < (65536 : Int))) := by omega
theorem q_1084 {x0 x1 x2 : Int} (h0 : ((x0 + (4 : Int)) ≤ x1)) (h1 : (((0 : Int) ≤ x0) ∧ ((x0 < x1) ∧ (((0 : Int) ≤ x2) ∧ (x2 ≤ (255 : Int)))))) (h2 : (((0 : Int) ≤ x1) ∧ (x1 ≤ (65536 : Int)))) : (inr (x0 + (1 : Int))) := by omega
theorem q_1085 {x0 x1 x2 : Int} (h0 : ((x0 + (4 : Int)) ≤ x1)) (h1 : (((0 : Int) ≤ x0) ∧ ((x0 < x1) ∧ (((0 : Int) ≤ x2) ∧ (x2 ≤ (255 : Int)))))) (h2 : (((0 : Int) ≤ x1) ∧ (x1 ≤ (65536 : Int)))) : (((0 : Int) ≤ (x0 + (2 : Int))) ∧ ((x0 + (2 : Int)) < (65536 : Int))) := by omega
theorem q_1086 {x0 x1 x2 : Int} (h0 : ((x0 + (4 : Int)) ≤ x1)) (h1 : (((0 : Int) ≤ x0) ∧ ((x0 < x1) ∧ (((0 : Int) ≤ x2) ∧ (x2 ≤ (255 : Int)))))) (h2 : (((0 : Int) ≤ x1) ∧ (x1 ≤ (65536 : Int)))) : (inr (x0 + (2 : Int))) := by omega
theorem q_1087 {x0 x1 x2 : Int} (h0 : ((x0 + (4 : Int)) ≤ x1)) (h1 : (((0 : Int) ≤ x0) ∧ ((x0 < x1) ∧ (((0 : Int) ≤ x2) ∧ (x2 ≤ (255 : Int)))))) (h2 : (((0 : Int) ≤ x1) ∧ (x1 ≤ (65536 : Int)))) : (((0 : Int) ≤ (x0 + (3 : Int))) ∧ ((x0 + (3 : Int)) < (65536 : Int))) := by omega
theorem q_1088 {x0 x1 x2 : Int} (h0 : ((x0 + (4 : Int)) ≤ x1)) (h1 : (((0 : Int) ≤ x0) ∧ ((x0 < x1) ∧ (((0 : Int) ≤ x2) ∧ (x2 ≤ (255 : Int)))))) (h2 : (((0 : Int) ≤ x1) ∧ (x1 ≤ (65536 : Int)))) : (inr (x0 + (3 : Int))) := by omega
theorem q_1089 {x0 x1 x2 x3 x4 x5 : Int} (h0 : ((x0 + (4 : Int)) ≤ x1)) (h1 : (((0 : Int) ≤ x0) ∧ ((x0 < x1) ∧ (((0 : Int) ≤ x2) ∧ (x2 ≤ (255 : Int)))))) (h2 : (((0 : Int) ≤ x3) ∧ (x3 ≤ (255 : Int)))) (h3 : (((0 : Int) ≤ x4) ∧ (x4 ≤ (255 : Int)))) (h4 : (((0 : Int) ≤ x5) ∧ (x5 ≤ (255 : Int)))) (h5 : (((0 : Int) ≤ x1) ∧ (x1 ≤ (65536 : Int)))) : (inr ((x0 + (4 : Int)) + ((x5 + ((256 : Int) * x3)) + ((65536 : Int) * x4)))) := by omega
theorem q_1090 {x0 x1 x2 x3 x4 x5 : Int} (h0 : (((x0 + (4 : Int)) + ((x1 + ((256 : Int) * x2)) + ((65536 : Int) * x3))) ≤ x4)) (h1 : (((0 : Int) ≤ x0) ∧ ((x0 < x4) ∧ (((0 : Int) ≤ x5) ∧ (x5 ≤ (255 : Int)))))) (h2 : (((0 : Int) ≤ x2) ∧ (x2 ≤ (255 : Int)))) (h3 : (((0 : Int) ≤ x3) ∧ (x3 ≤ (255 : Int)))) (h4 : (((0 : Int) ≤ x1) ∧ (x1 ≤ (255 : Int)))) (h5 : (((0 : Int) ≤ x4) ∧ (x4 ≤ (65536 : Int)))) : (((0 : Int) ≤ ((x0 + (4 : Int)) + ((x1 + ((256 : Int) * x2)) + ((65536 : Int) * x3)))) ∧ (((x0 + (4 : Int)) + ((x1 + ((256 : Int) * x2)) + ((65536 : Int) * x3))) ≤ (65536 : Int))) := by omega
theorem q_1091 {x0 : Int} (h0 : (x0 = (0 : Int))) : (((1 : Int) = (0 : Int)) → (x0 ≠ (0 : Int))) := by omega
theorem q_1092 {x0 x1 x2 x3 x4 : Int} (h0 : (x0 = (0 : Int))) (h1 : (((x0 = (0 : Int)) ∧ ((x1 = (10 : Int)) ∧ (x2 = x3))) ∨ ((x0 ≠ (0 : Int)) ∧ ((x1 = x0) ∧ (x2 = x4))))) : (((0 : Int) ≤ x1) ∧ (x1 ≤ (20 : Int))) := by omega
theorem q_1093 {x0 x1 x2 x3 x4 x5 x6 : Int} (h0 : (((x0 + (4 : Int)) + ((x1 + ((256 : Int) * x2)) + ((65536 : Int) * x3))) ≤ x4)) (h1 : (((0 : Int) ≤ x2) ∧ (x2 ≤ (255 : Int)))) (h2 : (((0 : Int) ≤ x3) ∧ (x3 ≤ (255 : Int)))) (h3 : (((0 : Int) ≤ x1) ∧ (x1 ≤ (255 : Int)))) (h4 : (((-(2147483648 : Int)) ≤ x5) ∧ (x5 ≤ (2147483647 : Int)))) : (((0 : Int) = (1 : Int)) → ((x5 = (0 : Int)) ∧ (((x0 + (4 : Int)) ≤ ((x0 + (4 : Int)) + ((x1 + ((256 : Int) * x2)) + ((65536 : Int) * x3)))) ∧ ((((x0 + (4 : Int)) + ((x1 + ((256 : Int) * x2)) + ((65536 : Int) * x3))) ≤ x4) ∧ ((x6 ≤ (1 : Int)) → ((x0 + (8 : Int)) ≤ ((x0 + (4 : Int)) + ((x1 + ((256 : Int) * x2)) + ((65536 : Int) * x3))))))))) := by omega
theorem q_1094 : (inr (65540 : Int)) := by omega
theorem q_1095 {x0 x1 x2 : Int} (h0 : (((0 : Int) ≤ x0) ∧ (x0 ≤ (255 : Int)))) (h1 : (((0 : Int) ≤ x1) ∧ (x1 ≤ (255 : Int)))) (h2 : (((0 : Int) ≤ x2) ∧ (x2 ≤ (255 : Int)))) : (inr ((x2 + ((256 : Int) * x0)) + ((65536 : Int) * x1))) := by omega
theorem q_1096 {x0 x1 x2 x3 x4 x5 : Int} (h0 : (((x0 + (4 : Int)) + ((x1 + ((256 : Int) * x2)) + ((65536 : Int) * x3))) ≤ x4)) (h1 : (x5 = (1 : Int))) (h2 : ((65540 : Int) < ((x1 + ((256 : Int) * x2)) + ((65536 : Int) * x3)))) (h3 : (((0 : Int) ≤ x0) ∧ ((x0 < x4) ∧ (((0 : Int) ≤ x5) ∧ (x5 ≤ (255 : Int)))))) (h4 : (((0 : Int) ≤ x4) ∧ (x4 ≤ (65536 : Int)))) : (((x5 > (1 : Int)) ∧ ((x5 ≠ (1 : Int)) ∧ ((1 : Int) = (0 : Int)))) ∨ (((x5 > (1 : Int)) ∧ ((x5 = (1 : Int)) ∧ ((((x1 + ((256 : Int) * x2)) + ((65536 : Int) * x3)) ≤ (65540 : Int)) ∧ ((1 : Int) = (0 : Int))))) ∨ (((x5 > (1 : Int)) ∧ ((x5 = (1 : Int)) ∧ ((((x1 + ((256 : Int) * x2)) + ((65536 : Int) * x3)) > (65540 : Int)) ∧ ((1 : Int) = (1 : Int))))) ∨ (((x5 ≤ (1 : Int)) ∧ ((((x1 + ((256 : Int) * x2)) + ((65536 : Int) * x3)) < (4 : Int)) ∧ ((1 : Int) = (1 : Int)))) ∨ (((x5 ≤ (1 : Int)) ∧ ((((x1 + ((256 : Int) * x2)) + ((65536 : Int) * x3)) ≥ (4 : Int)) ∧ ((x5 ≠ (1 : Int)) ∧ ((1 : Int) = (0 : Int))))) ∨ (((x5 ≤ (1 : Int)) ∧ ((((x1 + ((256 : Int) * x2)) + ((65536 : Int) * x3)) ≥ (4 : Int)) ∧ ((x5 = (1 : Int)) ∧ ((((x1 + ((256 : Int) * x2)) + ((65536 : Int) * x3)) ≤ (65540 : Int)) ∧ ((1 : Int) = (0 : Int)))))) ∨ ((x5 ≤ (1 : Int)) ∧ ((((x1 + ((256 : Int) * x2)) + ((65536 : Int) * x3)) ≥ (4 : Int)) ∧ ((x5 = (1 : Int)) ∧ ((((x1 + ((256 : Int) * x2)) + ((65536 : Int) * x3)) > (65540 : Int)) ∧ ((1 : Int) = (1 : Int)))))))))))) := by omega
theorem q_1097 {x0 x1 x2 x3 : Int} (h0 : ((1 : Int) < x0)) : ((x0 > (1 : Int)) ∨ ((x0 ≤ (1 : Int)) ∧ (((x1 + ((256 : Int) * x2)) + ((65536 : Int) * x3)) ≥ (4 : Int)))) := by omega
theorem q_1098 {x0 x1 x2 x3 : Int} (h0 : (x0 ≤ (1 : Int))) (h1 : (((x1 + ((256 : Int) * x2)) + ((65536 : Int) * x3)) < (4 : Int))) : (((x0 > (1 : Int)) ∧ ((x0 ≠ (1 : Int)) ∧ ((1 : Int) = (0 : Int)))) ∨ (((x0 > (1 : Int)) ∧ ((x0 = (1 : Int)) ∧ ((((x1 + ((256 : Int) * x2)) + ((65536 : Int) * x3)) ≤ (65540 : Int)) ∧ ((1 : Int) = (0 : Int))))) ∨ (((x0 > (1 : Int)) ∧ ((x0 = (1 : Int)) ∧ ((((x1 + ((256 : Int) * x2)) + ((65536 : Int) * x3)) > (65540 : Int)) ∧ ((1 : Int) = (1 : Int))))) ∨ (((x0 ≤ (1 : Int)) ∧ ((((x1 + ((256 : Int) * x2)) + ((65536 : Int) * x3)) < (4 : Int)) ∧ ((1 : Int) = (1 : Int)))) ∨ (((x0 ≤ (1 : Int)) ∧ ((((x1 + ((256 : Int) * x2)) + ((65536 : Int) * x3)) ≥ (4 : Int)) ∧ ((x0 ≠ (1 : Int)) ∧ ((1 : Int) = (0 : Int))))) ∨ (((x0 ≤ (1 : Int)) ∧ ((((x1 + ((256 : Int) * x2)) + ((65536 : Int) * x3)) ≥ (4 : Int)) ∧ ((x0 = (1 : Int)) ∧ ((((x1 + ((256 : Int) * x2)) + ((65536 : Int) * x3)) ≤ (65540 : Int)) ∧ ((1 : Int) = (0 : Int)))))) ∨ ((x0 ≤ (1 : Int)) ∧ ((((x1 + ((256 : Int) * x2)) + ((65536 : Int) * x3)) ≥ (4 : Int)) ∧ ((x0 = (1 : Int)) ∧ ((((x1 + ((256 : Int) * x2)) + ((65536 : Int) * x3)) > (65540 : Int)) ∧ ((1 : Int) = (1 : Int)))))))))))) := by omega
theorem q_1099 {x0 x1 x2 x3 : Int} (h0 : (x0 ≤ (1 : Int))) (h1 : ((4 : Int) ≤ ((x1 + ((256 : Int) * x2)) + ((65536 : Int) * x3)))) : ((x0 > (1 : Int)) ∨ ((x0 ≤ (1 : Int)) ∧ (((x1 + ((256 : Int) * x2)) + ((65536 : Int) * x3)) ≥ (4 : Int)))) := by omega
theorem q_1100 : (((0 : Int) ≤ (0 : Int)) ∧ ((0 : Int) ≤ (6 : Int))) := by omega
theorem q_1101 {x0 x1 x2 x3 x4 x5 x6 : Int} (h0 : (((x0 + (4 : Int)) + ((x1 + ((256 : Int) * x2)) + ((65536 : Int) * x3))) ≤ x4)) (h1 : (x5 = (255 : Int))) (h2 : (x6 = (0 : Int))) (h3 : (((0 : Int) ≤ x2) ∧ (x2 ≤ (255 : Int)))) (h4 : (((0 : Int) ≤ x3) ∧ (x3 ≤ (255 : Int)))) (h5 : (((0 : Int) ≤ x1) ∧ (x1 ≤ (255 : Int)))) : (((1 : Int) = (1 : Int)) → ((x6 = (0 : Int)) ∧ (((x0 + (4 : Int)) ≤ ((x0 + (4 : Int)) + ((x1 + ((256 : Int) * x2)) + ((65536 : Int) * x3)))) ∧ ((((x0 + (4 : Int)) + ((x1 + ((256 : Int) * x2)) + ((65536 : Int) * x3))) ≤ x4) ∧ ((x5 ≤ (1 : Int)) → ((x0 + (8 : Int)) ≤ ((x0 + (4 : Int)) + ((x1 + ((256 : Int) * x2)) + ((65536 : Int) * x3))))))))) := by omega
theorem q_1102 {x0 x1 x2 x3 x4 : Int} (h0 : (x0 = (0 : Int))) (h1 : (((x0 = (0 : Int)) ∧ ((x1 = (8 : Int)) ∧ (x2 = x3))) ∨ ((x0 ≠ (0 : Int)) ∧ ((x1 = x0) ∧ (x2 = x4))))) : (((0 : Int) ≤ x1) ∧ (x1 ≤ (20 : Int))) := by omega
theorem q_1103 {x0 x1 x2 x3 x4 x5 x6 : Int} (h0 : (((x0 + (4 : Int)) + ((x1 + ((256 : Int) * x2)) + ((65536 : Int) * x3))) ≤ x4)) (h1 : (x5 = (255 : Int))) (h2 : (((0 : Int) ≤ x2) ∧ (x2 ≤ (255 : Int)))) (h3 : (((0 : Int) ≤ x3) ∧ (x3 ≤ (255 : Int)))) (h4 : (((0 : Int) ≤ x1) ∧ (x1 ≤ (255 : Int)))) (h5 : (((-(2147483648 : Int)) ≤ x6) ∧ (x6 ≤ (2147483647 : Int)))) : (((0 : Int) = (1 : Int)) → ((x6 = (0 : Int)) ∧ (((x0 + (4 : Int)) ≤ ((x0 + (4 : Int)) + ((x1 + ((256 : Int) * x2)) + ((65536 : Int) * x3)))) ∧ ((((x0 + (4 : Int)) + ((x1 + ((256 : Int) * x2)) + ((65536 : Int) * x3))) ≤ x4) ∧ ((x5 ≤ (1 : Int)) → ((x0 + (8 : Int)) ≤ ((x0 + (4 : Int)) + ((x1 + ((256 : Int) * x2)) + ((65536 : Int) * x3))))))))) := by omega
theorem q_1104 {x0 : Int} (h0 : (((0 : Int) ≤ x0) ∧ (x0 ≤ (6 : Int)))) : (inr x0) := by omega
theorem q_1105 {x0 x1 : Int} (h0 : ((6 : Int) ≤ x0)) : ((x0 ≥ (6 : Int)) ∨ ((x0 < (6 : Int)) ∧ (x1 = (0 : Int)))) := by omega
theorem q_1106 {x0 x1 : Int} (h0 : (x0 < (6 : Int))) (h1 : (x1 = (0 : Int))) : ((x0 ≥ (6 : Int)) ∨ ((x0 < (6 : Int)) ∧ (x1 = (0 : Int)))) := by omega
theorem q_1107 {x0 x1 x2 x3 : Int} (h0 : ((x0 + (4 : Int)) ≤ x1)) (h1 : (x2 < (6 : Int))) (h2 : (((0 : Int) ≤ x0) ∧ ((x0 < x1) ∧ (((0 : Int) ≤ x3) ∧ (x3 ≤ (255 : Int)))))) (h3 : (((0 : Int) ≤ x2) ∧ (x2 ≤ (6 : Int)))) (h4 : (((0 : Int) ≤ x1) ∧ (x1 ≤ (65536 : Int)))) : (inr ((x0 + (4 : Int)) + x2)) := by omega
theorem q_1108 {x0 : Int} (h0 : (x0 < (6 : Int))) (h1 : (((0 : Int) ≤ x0) ∧ (x0 ≤ (6 : Int)))) : (inr x0) := by omega
theorem q_1109 {x0 x1 x2 x3 : Int} : (((0 : Int) = (0 : Int)) ∨ (((x0 + (4 : Int)) + ((x1 + ((256 : Int) * x2)) + ((65536 : Int) * x3))) = (x0 + (10 : Int)))) := by omega
theorem q_1110 {x0 : Int} (h0 : (x0 < (6 : Int))) (h1 : (((0 : Int) ≤ x0) ∧ (x0 ≤ (6 : Int)))) : (((0 : Int) ≤ (x0 + (1 : Int))) ∧ ((x0 + (1 : Int)) ≤ (6 : Int))) := by omega
theorem q_1111 {x0 : Int} (h0 : (x0 < (6 : Int))) (h1 : (((0 : Int) ≤ x0) ∧ (x0 ≤ (6 : Int)))) : (inr (x0 + (1 : Int))) := by omega
theorem q_1112 {x0 : Int} : (((6 : Int) - (x0 + (1 : Int))) < ((6 : Int) - x0)) := by omega
theorem q_1113 {x0 : Int} (h0 : (x0 < (6 : Int))) : ((0 : Int) < ((6 : Int) - x0)) := by omega
theorem q_1114 {x0 x1 x2 : Int} (h0 : (((x0 + ((256 : Int) * x1)) + ((65536 : Int) * x2)) ≠ (6 : Int))) : (((((x0 + ((256 : Int) * x1)) + ((65536 : Int) * x2)) ≠ (6 : Int)) ∧ ((0 : Int) = (0 : Int))) ∨ ((((x0 + ((256 : Int) * x1)) + ((65536 : Int) * x2)) = (6 : Int)) ∧ ((0 : Int) = (1 : Int)))) := by omega
theorem q_1115 {x0 x1 x2 : Int} (h0 : (((x0 + ((256 : Int) * x1)) + ((65536 : Int) * x2)) = (6 : Int))) : (((((x0 + ((256 : Int) * x1)) + ((65536 : Int) * x2)) ≠ (6 : Int)) ∧ ((1 : Int) = (0 : Int))) ∨ ((((x0 + ((256 : Int) * x1)) + ((65536 : Int) * x2)) = (6 : Int)) ∧ ((1 : Int) = (1 : Int)))) := by omega
theorem q_1116 {x0 x1 x2 x3 x4 : Int} (h0 : (x0 = (0 : Int))) (h1 : (((x0 = (0 : Int)) ∧ ((x1 = (7 : Int)) ∧ (x2 = x3))) ∨ ((x0 ≠ (0 : Int)) ∧ ((x1 = x0) ∧ (x2 = x4))))) : (((0 : Int) ≤ x1) ∧ (x1 ≤ (20 : Int))) := by omega
theorem q_1117 {x0 x1 x2 x3 x4 x5 : Int} (h0 : (inr x0)) (h1 : (x1 ≤ x2)) (h2 : (x3 = (0 : Int))) (h3 : (((0 : Int) ≤ x1) ∧ (x1 ≤ (65536 : Int)))) (h4 : (((-(2147483648 : Int)) ≤ x4) ∧ (x4 ≤ (2147483647 : Int)))) : ((x3 = (1 : Int)) → ((x4 = (0 : Int)) ∧ (((x0 + (4 : Int)) ≤ x1) ∧ ((x1 ≤ x2) ∧ ((x5 ≤ (1 : Int)) → ((x0 + (8 : Int)) ≤ x1)))))) := by omega
theorem q_1118 {x0 : Int} (h0 : (x0 < (2 : Int))) : ((x0 < (2 : Int)) ∨ ((x0 ≥ (2 : Int)) ∧ (x0 > (127 : Int)))) := by omega
theorem q_1119 : (inr (127 : Int)) := by omega
theorem q_1120 {x0 : Int} (h0 : ((127 : Int) < x0)) : ((x0 < (2 : Int)) ∨ ((x0 ≥ (2 : Int)) ∧ (x0 > (127 : Int)))) := by omega
theorem q_1121 {x0 x1 x2 x3 x4 : Int} (h0 : (x0 = (0 : Int))) (h1 : (((x0 = (0 : Int)) ∧ ((x1 = (9 : Int)) ∧ (x2 = x3))) ∨ ((x0 ≠ (0 : Int)) ∧ ((x1 = x0) ∧ (x2 = x4))))) : (((0 : Int) ≤ x1) ∧ (x1 ≤ (20 : Int))) := by omega
theorem q_1122 {x0 x1 x2 x3 x4 x5 : Int} (h0 : (inr x0)) (h1 : (x1 ≤ x2)) (h2 : (x3 = (0 : Int))) (h3 : (((-(2147483648 : Int)) ≤ x4) ∧ (x4 ≤ (2147483647 : Int)))) (h4 : (((0 : Int) ≤ x1) ∧ (x1 ≤ (65536 : Int)))) : ((x3 = (1 : Int)) → ((x4 = (0 : Int)) ∧ (((x0 + (4 : Int)) ≤ x1) ∧ ((x1 ≤ x2) ∧ ((x5 ≤ (1 : Int)) → ((x0 + (8 : Int)) ≤ x1)))))) := by omega
theorem q_1123 {x0 x1 : Int} (h0 : (x0 ≠ (0 : Int))) : ((x0 ≠ (0 : Int)) ∨ ((x0 = (0 : Int)) ∧ (x1 = (255 : Int)))) := by omega
theorem q_1124 {x0 x1 : Int} (h0 : (x0 = (0 : Int))) (h1 : (x1 = (255 : Int))) : ((x0 ≠ (0 : Int)) ∨ ((x0 = (0 : Int)) ∧ (x1 = (255 : Int)))) := by omega
theorem q_1125 {x0 x1 x2 x3 x4 x5 : Int} (h0 : (x0 = (0 : Int))) (h1 : (x1 ≤ x2)) (h2 : (x3 = (0 : Int))) (h3 : (((-(2147483648 : Int)) ≤ x4) ∧ (x4 ≤ (2147483647 : Int)))) (h4 : (((0 : Int) ≤ x1) ∧ (x1 ≤ (65536 : Int)))) : ((x3 = (1 : Int)) → ((x4 = (0 : Int)) ∧ (((x0 + (4 : Int)) ≤ x1) ∧ ((x1 ≤ x2) ∧ ((x5 ≤ (1 : Int)) → ((x0 + (8 : Int)) ≤ x1)))))) := by omega
theorem q_1126 {x0 x1 x2 x3 : Int} (h0 : (x0 ≤ (1 : Int))) (h1 : (((0 : Int) ≤ x1) ∧ ((x1 < x2) ∧ (((0 : Int) ≤ x0) ∧ (x0 ≤ (255 : Int)))))) (h2 : (((x1 + (4 : Int)) ≤ x3) ∧ ((x3 ≤ x2) ∧ ((x0 ≤ (1 : Int)) → ((x1 + (8 : Int)) ≤ x3))))) (h3 : (((0 : Int) ≤ x3) ∧ (x3 ≤ (65536 : Int)))) : (((0 : Int) ≤ (x1 + (8 : Int))) ∧ ((x1 + (8 : Int)) ≤ (65536 : Int))) := by omega
theorem q_1127 {x0 x1 x2 x3 : Int} (h0 : (x0 ≤ (1 : Int))) (h1 : (((0 : Int) ≤ x1) ∧ ((x1 < x2) ∧ (((0 : Int) ≤ x0) ∧ (x0 ≤ (255 : Int)))))) (h2 : (((x1 + (4 : Int)) ≤ x3) ∧ ((x3 ≤ x2) ∧ ((x0 ≤ (1 : Int)) → ((x1 + (8 : Int)) ≤ x3))))) (h3 : (((0 : Int) ≤ x3) ∧ (x3 ≤ (65536 : Int)))) : (((0 : Int) ≤ (x1 + (4 : Int))) ∧ ((x1 + (4 : Int)) < (65536 : Int))) := by omega
theorem q_1128 {x0 x1 x2 x3 : Int} (h0 : (((0 : Int) ≤ x0) ∧ ((x0 < x1) ∧ (((0 : Int) ≤ x2) ∧ (x2 ≤ (255 : Int)))))) (h1 : (((x0 + (4 : Int)) ≤ x3) ∧ ((x3 ≤ x1) ∧ ((x2 ≤ (1 : Int)) → ((x0 + (8 : Int)) ≤ x3))))) (h2 : (((0 : Int) ≤ x3) ∧ (x3 ≤ (65536 : Int)))) : (inr (x0 + (4 : Int))) := by omega
theorem q_1129 {x0 x1 x2 x3 : Int} (h0 : (x0 ≤ (1 : Int))) (h1 : (((0 : Int) ≤ x1) ∧ ((x1 < x2) ∧ (((0 : Int) ≤ x0) ∧ (x0 ≤ (255 : Int)))))) (h2 : (((x1 + (4 : Int)) ≤ x3) ∧ ((x3 ≤ x2) ∧ ((x0 ≤ (1 : Int)) → ((x1 + (8 : Int)) ≤ x3))))) (h3 : (((0 : Int) ≤ x3) ∧ (x3 ≤ (65536 : Int)))) : (((0 : Int) ≤ (x1 + (5 : Int))) ∧ ((x1 + (5 : Int)) < (65536 : Int))) := by omega
theorem q_1130 {x0 x1 x2 x3 : Int} (h0 : (((0 : Int) ≤ x0) ∧ ((x0 < x1) ∧ (((0 : Int) ≤ x2) ∧ (x2 ≤ (255 : Int)))))) (h1 : (((x0 + (4 : Int)) ≤ x3) ∧ ((x3 ≤ x1) ∧ ((x2 ≤ (1 : Int)) → ((x0 + (8 : Int)) ≤ x3))))) (h2 : (((0 : Int) ≤ x3) ∧ (x3 ≤ (65536 : Int)))) : (inr (x0 + (5 : Int))) := by omega
theorem q_1131 {x0 x1 x2 x3 : Int} (h0 : (x0 ≤ (1 : Int))) (h1 : (((0 : Int) ≤ x1) ∧ ((x1 < x2) ∧ (((0 : Int) ≤ x0) ∧ (x0 ≤ (255 : Int)))))) (h2 : (((x1 + (4 : Int)) ≤ x3) ∧ ((x3 ≤ x2) ∧ ((x0 ≤ (1 : Int)) → ((x1 + (8 : Int)) ≤ x3))))) (h3 : (((0 : Int) ≤ x3) ∧ (x3 ≤ (65536 : Int)))) : (((0 : Int) ≤ (x1 + (6 : Int))) ∧ ((x1 + (6 : Int)) < (65536 : Int))) := by omega
theorem q_1132 {x0 x1 x2 x3 : Int} (h0 : (((0 : Int) ≤ x0) ∧ ((x0 < x1) ∧ (((0 : Int) ≤ x2) ∧ (x2 ≤ (255 : Int)))))) (h1 : (((x0 + (4 : Int)) ≤ x3) ∧ ((x3 ≤ x1) ∧ ((x2 ≤ (1 : Int)) → ((x0 + (8 : Int)) ≤ x3))))) (h2 : (((0 : Int) ≤ x3) ∧ (x3 ≤ (65536 : Int)))) : (inr (x0 + (6 : Int))) := by omega
theorem q_1133 {x0 x1 x2 x3 : Int} (h0 : (x0 ≤ (1 : Int))) (h1 : (((0 : Int) ≤ x1) ∧ ((x1 < x2) ∧ (((0 : Int) ≤ x0) ∧ (x0 ≤ (255 : Int)))))) (h2 : (((x1 + (4 : Int)) ≤ x3) ∧ ((x3 ≤ x2) ∧ ((x0 ≤ (1 : Int)) → ((x1 + (8 : Int)) ≤ x3))))) (h3 : (((0 : Int) ≤ x3) ∧ (x3 ≤ (65536 : Int)))) : (((0 : Int) ≤ (x1 + (7 : Int))) ∧ ((x1 + (7 : Int)) < (65536 : Int))) := by omega
theorem q_1134 {x0 x1 x2 x3 : Int} (h0 : (((0 : Int) ≤ x0) ∧ ((x0 < x1) ∧ (((0 : Int) ≤ x2) ∧ (x2 ≤ (255 : Int)))))) (h1 : (((x0 + (4 : Int)) ≤ x3) ∧ ((x3 ≤ x1) ∧ ((x2 ≤ (1 : Int)) → ((x0 + (8 : Int)) ≤ x3))))) (h2 : (((0 : Int) ≤ x3) ∧ (x3 ≤ (65536 : Int)))) : (inr (x0 + (7 : Int))) := by omega
theorem q_1135 {x0 x1 x2 : Int} (h0 : (((0 : Int) ≤ x0) ∧ ((x0 ≤ x1) ∧ (x1 ≤ (65536 : Int))))) (h1 : ((x0 ≤ x2) ∧ (x2 ≤ x1))) : (((0 : Int) ≤ x0) ∧ ((x0 ≤ x2) ∧ (x2 ≤ (70000 : Int)))) := by omega
theorem q_1136 {x0 x1 x2 : Int} (h0 : (((0 : Int) ≤ x0) ∧ ((x0 ≤ x1) ∧ (x1 ≤ (65536 : Int))))) (h1 : ((x0 ≤ x2) ∧ (x2 ≤ x1))) : (((0 : Int) ≤ x2) ∧ (x2 ≤ x1)) := by omega
theorem q_1137 {x0 x1 x2 x3 x4 : Int} (h0 : (x0 = (0 : Int))) (h1 : (((x0 = (0 : Int)) ∧ ((x1 = (11 : Int)) ∧ (x2 = (x3 + (4 : Int))))) ∨ ((x0 ≠ (0 : Int)) ∧ ((x1 = x0) ∧ (x2 = x4))))) : (((0 : Int) ≤ x1) ∧ (x1 ≤ (20 : Int))) := by omega
theorem q_1138 {x0 x1 x2 x3 : Int} (h0 : (((0 : Int) ≤ x0) ∧ ((x0 < x1) ∧ (((0 : Int) ≤ x2) ∧ (x2 ≤ (255 : Int)))))) (h1 : (((x0 + (4 : Int)) ≤ x3) ∧ ((x3 ≤ x1) ∧ ((x2 ≤ (1 : Int)) → ((x0 + (8 : Int)) ≤ x3))))) (h2 : (((0 : Int) ≤ x3) ∧ (x3 ≤ (65536 : Int)))) : (inr (x3 - (x0 + (8 : Int)))) := by omega
theorem q_1139 {x0 x1 : Int} : (x0 = (x0 + ((x1 + (8 : Int)) - (x1 + (8 : Int))))) := by omega
theorem q_1140 {x0 x1 : Int} : (((x0 + (8 : Int)) ≤ (x0 + (8 : Int))) ∨ ((x0 + (8 : Int)) ≤ x1)) := by omega
theorem q_1141 {x0 : Int} : ((x0 + (8 : Int)) ≤ (x0 + (8 : Int))) := by omega
theorem q_1142 {x0 x1 x2 x3 : Int} (h0 : (((0 : Int) ≤ x0) ∧ ((x0 < x1) ∧ (((0 : Int) ≤ x2) ∧ (x2 ≤ (255 : Int)))))) (h1 : (((x0 + (4 : Int)) ≤ x3) ∧ ((x3 ≤ x1) ∧ ((x2 ≤ (1 : Int)) → ((x0 + (8 : Int)) ≤ x3))))) (h2 : (((0 : Int) ≤ x3) ∧ (x3 ≤ (65536 : Int)))) : (inr (x0 + (8 : Int))) := by omega
theorem q_1143 {x0 x1 x2 x3 x4 : Int} (h0 : (x0 < x1)) (h1 : (((0 : Int) ≤ x2) ∧ ((x2 < x3) ∧ (((0 : Int) ≤ x4) ∧ (x4 ≤ (255 : Int)))))) (h2 : ((x2 + (8 : Int)) ≤ x0)) (h3 : (((0 : Int) ≤ x1) ∧ (x1 ≤ (65536 : Int)))) : (((0 : Int) ≤ x0) ∧ (x0 < ((65536 : Nat) : Int))) := by omega
theorem q_1144 {x0 x1 x2 x3 x4 x5 : Int} (h0 : ((x0 - (x1 + (8 : Int))) ≤ (x2 - x3))) (h1 : (x4 < x0)) (h2 : (((0 : Int) ≤ x3) ∧ ((x3 ≤ x2) ∧ (x2 ≤ (65536 : Int))))) (h3 : ((x1 + (8 : Int)) ≤ x4)) (h4 : (x5 = (x3 + (x4 - (x1 + (8 : Int)))))) : (((0 : Int) ≤ x5) ∧ (x5 ≤ (100000000 : Int))) := by omega
theorem q_1145 {x0 x1 x2 x3 x4 : Int} (h0 : (x0 = (x1 + (x2 - (x3 + (8 : Int)))))) (h1 : (x4 = (x0 + (1 : Int)))) : (x4 = (x1 + ((x2 + (1 : Int)) - (x3 + (8 : Int))))) := by omega
theorem q_1146 {x0 x1 x2 : Int} (h0 : (x0 < x1)) : (((x0 + (1 : Int)) ≤ (x2 + (8 : Int))) ∨ ((x0 + (1 : Int)) ≤ x1)) := by omega
theorem q_1147 {x0 x1 : Int} (h0 : ((x0 + (8 : Int)) ≤ x1)) : ((x0 + (8 : Int)) ≤ (x1 + (1 : Int))) := by omega
theorem q_1148 {x0 x1 x2 x3 x4 x5 : Int} (h0 : ((x0 - x1) < (x2 - (x3 + (8 : Int))))) (h1 : (((0 : Int) ≤ x3) ∧ ((x3 < x4) ∧ (((0 : Int) ≤ x5) ∧ (x5 ≤ (255 : Int)))))) (h2 : (((0 : Int) ≤ x1) ∧ ((x1 ≤ x0) ∧ (x0 ≤ (65536 : Int))))) (h3 : (((0 : Int) ≤ x2) ∧ (x2 ≤ (65536 : Int)))) : (inr ((x3 + (8 : Int)) + (x0 - x1))) := by omega
theorem q_1149 {x0 x1 x2 x3 x4 x5 x6 : Int} (h0 : (x0 = (0 : Int))) (h1 : (((x0 = (0 : Int)) ∧ ((x1 = (3 : Int)) ∧ (x2 = ((x3 + (8 : Int)) + (x4 - x5))))) ∨ ((x0 ≠ (0 : Int)) ∧ ((x1 = x0) ∧ (x2 = x6))))) : (((0 : Int) ≤ x1) ∧ (x1 ≤ (20 : Int))) := by omega
theorem q_1150 {x0 x1 x2 x3 : Int} (h0 : (x0 ≤ (1 : Int))) (h1 : (((0 : Int) ≤ x1) ∧ ((x1 < x2) ∧ (((0 : Int) ≤ x0) ∧ (x0 ≤ (255 : Int)))))) (h2 : (((x1 + (4 : Int)) ≤ x3) ∧ ((x3 ≤ x2) ∧ ((x0 ≤ (1 : Int)) → ((x1 + (8 : Int)) ≤ x3))))) : (((0 : Int) ≤ (x1 + (8 : Int))) ∧ ((x1 + (8 : Int)) ≤ x3)) := by omega
theorem q_1151 {x0 x1 x2 : Int} (h0 : (((0 : Int) ≤ x0) ∧ ((x0 ≤ x1) ∧ (x1 ≤ (65536 : Int))))) (h1 : ((((x1 - x0) ≥ (65536 : Int)) ∧ (x2 = (65536 : Int))) ∨ (((x1 - x0) < (65536 : Int)) ∧ (x2 = (x1 - x0))))) : (((0 : Int) ≤ x2) ∧ (((0 : Int) ≤ x0) ∧ ((x0 + x2) ≤ (65536 : Int)))) := by omega
theorem q_1152 {x0 x1 x2 x3 : Int} (h0 : ((((x0 - x1) ≥ (65536 : Int)) ∧ (x2 = (65536 : Int))) ∨ (((x0 - x1) < (65536 : Int)) ∧ (x2 = (x0 - x1))))) (h1 : ((x1 ≤ x3) ∧ (x3 ≤ (x1 + x2)))) : ((x1 ≤ x3) ∧ (x3 ≤ x0)) := by omega
theorem q_1153 : (((-(2147483648 : Int)) ≤ (12 : Int)) ∧ ((12 : Int) ≤ (2147483647 : Int))) := by omega
theorem q_1154 : (((0 : Int) ≤ (12 : Int)) ∧ ((12 : Int) ≤ (20 : Int))) := by omega
theorem q_1155 {x0 x1 : Int} (h0 : ((65536 : Int) ≤ (x0 - x1))) : ((((x0 - x1) ≥ (65536 : Int)) ∧ ((65536 : Int) = (65536 : Int))) ∨ (((x0 - x1) < (65536 : Int)) ∧ ((65536 : Int) = (x0 - x1)))) := by omega
theorem q_1156 {x0 x1 : Int} (h0 : ((x0 - x1) < (65536 : Int))) : ((((x0 - x1) ≥ (65536 : Int)) ∧ ((x0 - x1) = (65536 : Int))) ∨ (((x0 - x1) < (65536 : Int)) ∧ ((x0 - x1) = (x0 - x1)))) := by omega
theorem q_1157 {x0 x1 : Int} (h0 : ((x0 - x1) < (65536 : Int))) (h1 : (((0 : Int) ≤ x1) ∧ ((x1 ≤ x0) ∧ (x0 ≤ (65536 : Int))))) : (inr (x0 - x1)) := by omega
theorem q_1158 {x0 x1 : Int} (h0 : (((0 : Int) ≤ x0) ∧ ((x0 ≤ x1) ∧ (x1 ≤ (65536 : Int))))) : (((0 : Int) ≤ x0) ∧ (x0 ≤ x1)) := by omega
theorem q_1159 {x0 : Int} (h0 : (((0 : Int) ≤ x0) ∧ (x0 ≤ (20 : Int)))) : (inr (-x0)) := by omega
theorem q_1160 {x0 x1 x2 : Int} (h0 : (x0 ≠ (0 : Int))) : (((x0 ≠ (0 : Int)) ∧ (x1 = x1)) ∨ ((x0 = (0 : Int)) ∧ (x1 = x2))) := by omega
theorem q_1161 {x0 x1 x2 : Int} (h0 : (x0 = (0 : Int))) : (((x0 ≠ (0 : Int)) ∧ (x1 = x2)) ∨ ((x0 = (0 : Int)) ∧ (x1 = x1))) := by omega
theorem q_1162 {x0 x1 x2 x3 x4 : Int} (h0 : ((x0 = (0 : Int)) ∧ ((x1 = x2) ∧ ((x3 = (0 : Int)) ∧ (x4 = (0 : Int)))))) : (x0 = (0 : Int)) := by omega
theorem q_1163 {x0 x1 x2 x3 x4 : Int} (h0 : ((x0 = (0 : Int)) ∧ ((x1 = x2) ∧ ((x3 = (0 : Int)) ∧ (x4 = (0 : Int)))))) : (x1 = x2) := by omega
theorem q_1164 {x0 x1 x2 x3 x4 : Int} (h0 : ((x0 = (0 : Int)) ∧ ((x1 = x2) ∧ ((x3 = (0 : Int)) ∧ (x4 = (0 : Int)))))) : (x4 = (0 : Int)) := by omega
theorem q_1165 {x0 x1 x2 x3 x4 : Int} (h0 : ((x0 = (0 : Int)) ∧ ((x1 = x2) ∧ ((x3 = (0 : Int)) ∧ (x4 = (0 : Int)))))) : (x3 = (0 : Int)) := by omega
theorem q_1166 {x0 x1 : Int} (h0 : (x0 = (0 : Int))) (h1 : (((0 : Int) ≤ x0) ∧ (x0 ≤ (65536 : Int)))) (h2 : (((0 : Int) ≤ x1) ∧ (x1 ≤ (65536 : Int)))) : (((0 : Int) ≤ x0) ∧ (x0 ≤ x1)) := by omega
theorem q_1167 {x0 x1 : Int} (h0 : (((0 : Int) ≤ x0) ∧ (x0 ≤ (65536 : Int)))) (h1 : (x1 = (0 : Int))) : (((0 : Int) ≤ x0) ∧ (((0 : Int) ≤ x1) ∧ ((x1 + x0) ≤ (65536 : Int)))) := by omega
theorem q_1168 {x0 x1 x2 : Int} (h0 : (((0 : Int) ≤ x0) ∧ (x0 ≤ (65536 : Int)))) (h1 : (x1 = (0 : Int))) (h2 : ((x1 ≤ x2) ∧ (x2 ≤ (x1 + x0)))) : (((0 : Int) ≤ x2) ∧ (x2 ≤ (65536 : Int))) := by omega
theorem q_1169 {x0 x1 x2 x3 x4 : Int} (h0 : ((x0 = (0 : Int)) ∧ ((x1 = x2) ∧ ((x3 = (0 : Int)) ∧ (x4 = (0 : Int)))))) : (((0 : Int) ≤ x3) ∧ (x3 ≤ (20 : Int))) := by omega
theorem q_1170 {x0 x1 x2 x3 x4 x5 : Int} (h0 : (((0 : Int) ≤ x0) ∧ (x0 ≤ (65536 : Int)))) (h1 : ((x1 = (0 : Int)) ∧ ((x2 = x3) ∧ ((x4 = (0 : Int)) ∧ (x5 = (0 : Int)))))) : (((0 : Int) ≤ x5) ∧ (x5 ≤ x0)) := by omega
theorem q_1171 {x0 x1 x2 x3 x4 : Int} (h0 : ((x0 = (0 : Int)) ∧ ((x1 = x2) ∧ ((x3 = (0 : Int)) ∧ (x4 = (0 : Int)))))) : (x1 ≤ x2) := by omega
theorem q_1172 {x0 : Int} (h0 : (((0 : Int) ≤ x0) ∧ (x0 ≤ (65536 : Int)))) : (((0 : Int) ≤ (0 : Int)) ∧ ((0 : Int) ≤ x0)) := by omega
theorem q_1173 {x0 x1 : Int} (h0 : (((0 : Int) ≤ x0) ∧ (x0 ≤ (65536 : Int)))) (h1 : (((0 : Int) ≤ x1) ∧ (x1 ≤ x0))) : (((0 : Int) ≤ x1) ∧ (x1 ≤ (65536 : Int))) := by omega
theorem q_1174 {x0 : Int} (h0 : (x0 ≠ (0 : Int))) : ((x0 = (0 : Int)) ∨ (x0 ≠ (0 : Int))) := by omega
theorem q_1175 {x0 : Int} (h0 : (x0 = (0 : Int))) : ((x0 = (0 : Int)) ∨ (x0 ≠ (0 : Int))) := by omega
theorem q_1176 {x0 x1 : Int} (h0 : (x0 < x1)) (h1 : (((0 : Int) ≤ x0) ∧ (x0 ≤ x1))) (h2 : (((0 : Int) ≤ x1) ∧ (x1 ≤ (65536 : Int)))) : (((0 : Int) ≤ x0) ∧ (x0 < (65536 : Int))) := by omega
theorem q_1177 {x0 x1 x2 : Int} (h0 : (x0 < x1)) (h1 : (((0 : Int) ≤ x0) ∧ (x0 ≤ x1))) (h2 : (((0 : Int) ≤ x2) ∧ (x2 ≤ (255 : Int)))) : (((0 : Int) ≤ x0) ∧ ((x0 < x1) ∧ (((0 : Int) ≤ x2) ∧ (x2 ≤ (255 : Int))))) := by omega
theorem q_1178 {x0 x1 : Int} (h0 : (((0 : Int) ≤ x0) ∧ (x0 ≤ x1))) (h1 : (((0 : Int) ≤ x0) ∧ (x0 ≤ (65536 : Int)))) : (inr x0) := by omega
theorem q_1179 {x0 x1 : Int} (h0 : (x0 ≤ x1)) (h1 : (((0 : Int) ≤ x0) ∧ (x0 ≤ (65536 : Int)))) : (((0 : Int) ≤ x0) ∧ (x0 ≤ x1)) := by omega
theorem q_1180 {x0 x1 : Int} (h0 : (((0 : Int) ≤ x0) ∧ (x0 ≤ (65536 : Int)))) (h1 : (((0 : Int) ≤ x1) ∧ (x1 ≤ x0))) : (((0 : Int) ≤ x1) ∧ ((x1 ≤ x0) ∧ (x0 ≤ (65536 : Int)))) := by omega
theorem q_1181 {x0 x1 x2 x3 x4 x5 : Int} (h0 : (x0 ≠ (0 : Int))) (h1 : ((x0 = (0 : Int)) ∨ (x0 = (1 : Int)))) (h2 : ((x0 = (1 : Int)) → ((x1 = (0 : Int)) ∧ (((x2 + (4 : Int)) ≤ x3) ∧ ((x3 ≤ x4) ∧ ((x5 ≤ (1 : Int)) → ((x2 + (8 : Int)) ≤ x3))))))) (h3 : (((0 : Int) ≤ x1) ∧ (x1 ≤ (20 : Int)))) : (x1 = (0 : Int)) := by omega
theorem q_1182 {x0 x1 x2 x3 x4 x5 x6 : Int} (h0 : (x0 ≠ (0 : Int))) (h1 : ((x0 = (0 : Int)) ∨ (x0 = (1 : Int)))) (h2 : (x1 ≤ x2)) (h3 : ((x0 = (1 : Int)) → ((x3 = (0 : Int)) ∧ (((x4 + (4 : Int)) ≤ x1) ∧ ((x1 ≤ x2) ∧ ((x5 ≤ (1 : Int)) → ((x4 + (8 : Int)) ≤ x1))))))) : ((x6 ≠ (0 : Int)) ∨ (((x4 + (4 : Int)) ≤ x1) ∧ (x1 ≤ x2))) := by omega
theorem q_1183 : (((0 : Int) ≤ (4 : Int)) ∧ ((4 : Int) ≤ (4 : Int))) := by omega
theorem q_1184 {x0 x1 : Int} (h0 : (((0 : Int) ≤ x0) ∧ ((x0 ≤ x1) ∧ (x1 ≤ (16384 : Int))))) : (((0 : Int) ≤ x0) ∧ ((x0 ≤ x1) ∧ (x1 ≤ (65536 : Int)))) := by omega
theorem q_1185 {x0 x1 x2 : Int} (h0 : (((0 : Int) ≤ x0) ∧ (x0 ≤ (7000000 : Int)))) (h1 : (x1 = (x2 + (4 : Int)))) (h2 : (x2 = (x0 + (4 : Int)))) (h3 : (((-(2147483648 : Int)) ≤ x1) ∧ (x1 ≤ (2147483647 : Int)))) : (((0 : Int) ≤ x1) ∧ (x1 ≤ (8000000 : Int))) := by omega
theorem q_1186 {x0 : Int} (h0 : (((0 : Int) ≤ x0) ∧ (x0 ≤ (7000000 : Int)))) (h1 : (((-(2147483648 : Int)) ≤ x0) ∧ (x0 ≤ (2147483647 : Int)))) : (((0 : Int) ≤ x0) ∧ (x0 ≤ (100000000 : Int))) := by omega
theorem q_1187 : (((0 : Int) ≤ (3 : Int)) ∧ ((3 : Int) ≤ (4 : Int))) := by omega
theorem q_1188 {x0 x1 x2 x3 : Int} (h0 : (((x0 + (8 : Int)) ≤ x1) ∧ (x1 ≤ ((x0 + ((10 : Int) * (x2 - x3))) + (28 : Int))))) : ((x0 ≤ x1) ∧ (x1 ≤ ((x0 + ((10 : Int) * (x2 - x3))) + (28 : Int)))) := by omega
theorem q_1189 {x0 x1 x2 x3 : Int} (h0 : (((0 : Int) ≤ x0) ∧ ((x0 ≤ x1) ∧ (x1 ≤ (16384 : Int))))) (h1 : ((x2 ≤ x3) ∧ (x3 ≤ ((x2 + ((10 : Int) * (x1 - x0))) + (20 : Int))))) : (inr (x1 - x0)) := by omega
theorem q_1190 {x0 x1 x2 x3 x4 x5 : Int} (h0 : (((0 : Int) ≤ x0) ∧ (x0 ≤ (7000000 : Int)))) (h1 : (x1 = (x2 + (4 : Int)))) (h2 : ((x1 ≤ x3) ∧ (x3 ≤ ((x1 + ((10 : Int) * (x4 - x5))) + (20 : Int))))) (h3 : (x2 = (x0 + (4 : Int)))) (h4 : (((-(2147483648 : Int)) ≤ x3) ∧ (x3 ≤ (2147483647 : Int)))) : (inr (((x3 - x0) - (4 : Int)) - (4 : Int))) := by omega
theorem q_1191 {x0 x1 x2 x3 x4 : Int} (h0 : ((((x0 - x1) - (4 : Int)) - (4 : Int)) < (x2 - x3))) (h1 : (x0 = ((x1 + (8 : Int)) + x4))) : ((((0 : Int) = (1 : Int)) ∧ (((x2 - x3) ≤ x4) ∧ (x0 = ((x1 + (8 : Int)) + (x2 - x3))))) ∨ (((0 : Int) = (0 : Int)) ∧ ((x4 < (x2 - x3)) ∧ (x0 = ((x1 + (8 : Int)) + x4))))) := by omega
theorem q_1192 {x0 x1 : Int} : (((x0 - x1) - (4 : Int)) = ((x0 - x1) - (4 : Int))) := by omega
theorem q_1193 {x0 x1 x2 x3 x4 x5 : Int} (h0 : ((((x0 - x1) - (4 : Int)) - (4 : Int)) < (x2 - x3))) (h1 : (x4 = (x5 + (4 : Int)))) (h2 : ((x4 ≤ x0) ∧ (x0 ≤ ((x4 + ((10 : Int) * (x2 - x3))) + (20 : Int))))) (h3 : (x5 = (x1 + (4 : Int)))) : (((x1 + (8 : Int)) ≤ x0) ∧ (x0 ≤ ((x1 + ((10 : Int) * (x2 - x3))) + (28 : Int)))) := by omega
theorem q_1194 {x0 x1 x2 x3 x4 x5 : Int} (h0 : (((0 : Int) ≤ x0) ∧ (x0 ≤ (7000000 : Int)))) (h1 : (x1 = (x2 + (4 : Int)))) (h2 : ((x1 ≤ x3) ∧ (x3 ≤ ((x1 + ((10 : Int) * (x4 - x5))) + (20 : Int))))) (h3 : (x2 = (x0 + (4 : Int)))) (h4 : (((-(2147483648 : Int)) ≤ x3) ∧ (x3 ≤ (2147483647 : Int)))) : (inr ((x3 - x0) - (4 : Int))) := by omega
theorem q_1195 {x0 x1 : Int} : ((x0 + (8 : Int)) = ((x0 + (8 : Int)) + (x1 - x1))) := by omega
theorem q_1196 {x0 x1 x2 x3 x4 : Int} (h0 : (x0 ≤ x1)) (h1 : (((0 : Int) ≤ x2) ∧ ((x2 ≤ x0) ∧ (x0 ≤ (16384 : Int))))) (h2 : ((x1 ≤ x2) ∨ (x1 ≤ x0))) (h3 : (x3 = ((x4 + (8 : Int)) + (x1 - x2)))) : (((x0 - x2) + (4 : Int)) = ((x3 - x4) - (4 : Int))) := by omega
theorem q_1197 {x0 x1 x2 x3 x4 x5 x6 : Int} (h0 : (x0 ≤ x1)) (h1 : ((x1 ≤ x0) ∨ (x1 ≤ x2))) (h2 : (x3 = ((x4 + (8 : Int)) + (x1 - x0)))) (h3 : ((x5 ≤ x6) ∧ (x6 ≤ ((x5 + ((10 : Int) * (x2 - x0))) + (20 : Int))))) : (((x4 + (8 : Int)) ≤ x3) ∧ (x3 ≤ ((x4 + ((10 : Int) * (x2 - x0))) + (28 : Int)))) := by omega
theorem q_1198 {x0 x1 x2 x3 : Int} (h0 : (((0 : Int) ≤ x0) ∧ ((x0 ≤ x1) ∧ (x1 ≤ (16384 : Int))))) (h1 : ((x2 ≤ x3) ∧ (x3 ≤ ((x2 + ((10 : Int) * (x1 - x0))) + (20 : Int))))) : (inr ((x1 - x0) + (4 : Int))) := by omega
theorem q_1199 {x0 x1 x2 : Int} (h0 : (x0 < x1)) (h1 : (((0 : Int) ≤ x2) ∧ ((x2 ≤ x1) ∧ (x1 ≤ (16384 : Int))))) (h2 : (x2 ≤ x0)) : (((0 : Int) ≤ x0) ∧ (x0 < ((65536 : Nat) : Int))) := by omega
theorem q_1200 {x0 x1 x2 x3 x4 : Int} (h0 : (x0 < x1)) (h1 : (((0 : Int) ≤ x2) ∧ ((x2 ≤ x1) ∧ (x1 ≤ (16384 : Int))))) (h2 : (((0 : Int) ≤ x3) ∧ (x3 ≤ (7000000 : Int)))) (h3 : (x2 ≤ x0)) (h4 : (x4 = ((x3 + (8 : Int)) + (x0 - x2)))) (h5 : (((-(2147483648 : Int)) ≤ x4) ∧ (x4 ≤ (2147483647 : Int)))) : (((0 : Int) ≤ x4) ∧ (x4 ≤ (100000000 : Int))) := by omega
theorem q_1201 {x0 x1 x2 x3 x4 : Int} (h0 : (x0 = ((x1 + (8 : Int)) + (x2 - x3)))) (h1 : (x4 = (x0 + (1 : Int)))) : (x4 = ((x1 + (8 : Int)) + ((x2 + (1 : Int)) - x3))) := by omega
theorem q_1202 : (((0 : Int) ≤ (0 : Int)) ∧ ((0 : Int) ≤ (100000000 : Int))) := by omega
theorem q_1203 {x0 : Int} (h0 : (x0 = ((0 : Int) + (1 : Int)))) : (((0 : Int) ≤ x0) ∧ (x0 ≤ (10000000 : Int))) := by omega
theorem q_1204 {x0 x1 : Int} (h0 : (x0 = (x1 + (3 : Int)))) (h1 : (x1 = ((0 : Int) + (1 : Int)))) : (x0 = ((4 : Int) + (0 : Int))) := by omega
theorem q_1205 : (((0 : Int) ≤ (0 : Int)) ∨ ((0 : Int) ≤ (6 : Int))) := by omega
theorem q_1206 {x0 x1 : Int} (h0 : ((6 : Int) ≤ x0)) (h1 : (x1 = ((4 : Int) + x0))) : ((0 : Int) ≤ x1) := by omega
theorem q_1207 {x0 : Int} (h0 : ((0 : Int) ≤ x0)) (h1 : (((-(2147483648 : Int)) ≤ x0) ∧ (x0 ≤ (2147483647 : Int)))) : (inr x0) := by omega
theorem q_1208 {x0 : Int} (h0 : (x0 ≤ (65536 : Int))) (h1 : ((0 : Int) ≤ x0)) : (((0 : Int) ≤ x0) ∧ (x0 ≤ (65536 : Int))) := by omega
theorem q_1209 {x0 x1 x2 x3 : Int} (h0 : (x0 ≤ (16384 : Int))) (h1 : ((0 : Int) ≤ x1)) (h2 : (((x2 = (x1 + x3)) ∧ (x2 ≤ x0)) ∨ ((x2 = x0) ∧ (x0 < (x1 + x3))))) (h3 : (x1 ≤ x2)) : (((0 : Int) ≤ x1) ∧ ((x1 ≤ x2) ∧ (x2 ≤ (16384 : Int)))) := by omega
theorem q_1210 {x0 x1 x2 x3 x4 x5 : Int} (h0 : ((0 : Int) ≤ x0)) (h1 : ((x1 ≤ x2) ∧ (x2 ≤ ((x1 + (4 : Int)) + x3)))) (h2 : ((x0 ≤ x1) ∧ (x1 ≤ ((x0 + ((10 : Int) * (x4 - x5))) + (28 : Int))))) : ((0 : Int) ≤ x2) := by omega
theorem q_1211 {x0 x1 : Int} (h0 : (((1 : Int) ≤ x0) ∧ (x0 ≤ (65536 : Int)))) (h1 : ((0 : Int) ≤ x1)) : ((0 : Int) ≤ (x1 + x0)) := by omega
theorem q_1212 {x0 x1 x2 : Int} (h0 : (x0 < x1)) (h1 : (((1 : Int) ≤ x2) ∧ (x2 ≤ (65536 : Int)))) (h2 : ((0 : Int) ≤ x0)) (h3 : (((0 : Int) ≤ x1) ∧ (x1 ≤ (65536 : Int)))) : (inr (x0 + x2)) := by omega
theorem q_1213 {x0 x1 x2 : Int} (h0 : (((1 : Int) ≤ x0) ∧ (x0 ≤ (65536 : Int)))) : ((x1 - (x2 + x0)) < (x1 - x2)) := by omega
theorem q_1214 {x0 x1 : Int} (h0 : (((0 : Int) ≤ x0) ∧ (x0 ≤ (255 : Int)))) : ((x1 ≤ x1) ∧ (x1 ≤ ((x1 + (4 : Int)) + x0))) := by omega
theorem q_1215 : (inr (254 : Int)) := by omega
theorem q_1216 {x0 x1 x2 x3 x4 x5 : Int} (h0 : ((0 : Int) < x0)) (h1 : (x0 ≤ x1)) (h2 : ((0 : Int) ≤ x1)) (h3 : ((x1 ≤ (0 : Int)) ∨ (x1 ≤ x0))) (h4 : (x2 = (x3 + x1))) (h5 : (x4 = (x5 + (1 : Int)))) (h6 : (x3 = (x4 + (3 : Int)))) (h7 : (((-(2147483648 : Int)) ≤ x5) ∧ (x5 ≤ (2147483647 : Int)))) (h8 : (((-(2147483648 : Int)) ≤ x2) ∧ (x2 ≤ (2147483647 : Int)))) : ((x5 ≤ x2) ∧ (x2 ≤ ((x5 + (4 : Int)) + x0))) := by omega
theorem q_1217 {x0 x1 : Int} (h0 : (x0 < x1)) (h1 : (((0 : Int) ≤ x1) ∧ (x1 ≤ (255 : Int)))) (h2 : ((0 : Int) ≤ x0)) : (inr (x0 + (1 : Int))) := by omega
theorem q_1218 {x0 x1 : Int} (h0 : (x0 < x1)) : (x0 ≤ x1) := by omega
theorem q_1219 {x0 x1 : Int} (h0 : (((1 : Int) ≤ x0) ∧ (x0 ≤ (65536 : Int)))) : (x1 ≤ (x1 + x0)) := by omega
theorem q_1220 {x0 x1 x2 : Int} (h0 : ((x0 + x1) < x2)) : ((((x0 + x1) = (x0 + x1)) ∧ ((x0 + x1) ≤ x2)) ∨ (((x0 + x1) = x2) ∧ (x2 < (x0 + x1)))) := by omega
theorem q_1221 {x0 x1 x2 : Int} (h0 : ((x0 + x1) < x2)) (h1 : (((1 : Int) ≤ x1) ∧ (x1 ≤ (65536 : Int)))) (h2 : ((0 : Int) ≤ x0)) (h3 : (((0 : Int) ≤ x2) ∧ (x2 ≤ (65536 : Int)))) : (inr (x0 + x1)) := by omega
theorem q_1222 {x0 x1 : Int} (h0 : (x0 < (6 : Int))) (h1 : ((0 : Int) ≤ x0)) (h2 : (x1 = ((4 : Int) + x0))) : (((0 : Int) ≤ x1) ∧ (x1 ≤ (100000000 : Int))) := by omega
theorem q_1223 {x0 x1 x2 : Int} (h0 : (x0 = ((4 : Int) + x1))) (h1 : (x2 = (x0 + (1 : Int)))) : (x2 = ((4 : Int) + (x1 + (1 : Int)))) := by omega
theorem q_1224 {x0 : Int} (h0 : (x0 < (6 : Int))) : (((x0 + (1 : Int)) ≤ (0 : Int)) ∨ ((x0 + (1 : Int)) ≤ (6 : Int))) := by omega
theorem q_1225 {x0 : Int} (h0 : (x0 < (6 : Int))) (h1 : ((0 : Int) ≤ x0)) : (inr (x0 + (1 : Int))) := by omega
theorem q_1226 {x0 : Int} (h0 : (((0 : Int) ≤ x0) ∧ (x0 ≤ (65532 : Int)))) : (((0 : Int) ≤ x0) ∧ (x0 < ((65536 : Nat) : Int))) := by omega
theorem q_1227 {x0 : Int} (h0 : (((0 : Int) ≤ x0) ∧ (x0 ≤ (65532 : Int)))) : (((0 : Int) ≤ (x0 + (1 : Int))) ∧ ((x0 + (1 : Int)) < ((65536 : Nat) : Int))) := by omega
theorem q_1228 {x0 : Int} (h0 : (((0 : Int) ≤ x0) ∧ (x0 ≤ (65532 : Int)))) : (((0 : Int) ≤ (x0 + (2 : Int))) ∧ ((x0 + (2 : Int)) < ((65536 : Nat) : Int))) := by omega
theorem q_1229 {x0 : Int} (h0 : (((0 : Int) ≤ x0) ∧ (x0 ≤ (65532 : Int)))) : (((0 : Int) ≤ (x0 + (3 : Int))) ∧ ((x0 + (3 : Int)) < ((65536 : Nat) : Int))) := by omega
theorem q_1230 {x0 x1 x2 x3 : Int} (h0 : (((0 : Int) ≤ x0) ∧ ((x0 ≤ (255 : Int)) ∧ (((0 : Int) ≤ x1) ∧ ((x1 ≤ (255 : Int)) ∧ (((0 : Int) ≤ x2) ∧ ((x2 ≤ (255 : Int)) ∧ (((0 : Int) ≤ x3) ∧ (x3 ≤ (255 : Int)))))))))) : (inr x3) := by omega
theorem q_1231 {x0 : Int} (h0 : (inr x0)) (h1 : (((0 : Int) ≤ x0) ∧ (x0 < (524288 : Int)))) : ((inr x0) ∧ ((0 : Int) ≤ x0)) := by omega
theorem q_1232 {x0 : Int} (h0 : (((0 : Int) ≤ x0) ∧ (x0 < (524288 : Int)))) : (((0 : Int) ≤ (x0 / (8 : Int))) ∧ ((x0 / (8 : Int)) < ((65536 : Nat) : Int))) := by omega
theorem q_1233 : (((-(1 : Int)) ≤ (-(1 : Int))) ∧ ((-(1 : Int)) ≤ (30 : Int))) := by omega
theorem q_1234 : ((inr (2 : Int)) ∧ ((0 : Int) < (2 : Int))) := by omega
theorem q_1235 {x0 : Int} (h0 : (inr x0)) (h1 : ((0 : Int) ≤ x0)) : ((inr x0) ∧ ((0 : Int) ≤ x0)) := by omega
theorem q_1236 {x0 : Int} (h0 : ((0 : Int) < x0)) : ((0 : Int) ≤ (x0 / (2 : Int))) := by omega
theorem q_1237 {x0 : Int} (h0 : ((0 : Int) < x0)) (h1 : (inr x0)) : (inr (x0 / (2 : Int))) := by omega
theorem q_1238 {x0 : Int} (h0 : (((-(1 : Int)) ≤ x0) ∧ (x0 ≤ (30 : Int)))) : (inr (x0 + (1 : Int))) := by omega
theorem q_1239 {x0 : Int} (h0 : ((0 : Int) < x0)) : ((x0 / (2 : Int)) < x0) := by omega
theorem q_1240 {x0 x1 : Int} (h0 : (((0 : Int) ≤ x0) ∧ ((x0 ≤ (65536 : Int)) ∧ ((x1 ≤ (65536 : Int)) ∧ ((0 : Int) ≤ x1))))) : (inr ((8 : Int) * x1)) := by omega
theorem q_1241 {x0 x1 : Int} (h0 : (((0 : Int) ≤ x0) ∧ ((x0 ≤ (65536 : Int)) ∧ ((x1 ≤ (65536 : Int)) ∧ ((0 : Int) ≤ x1))))) : (inr (((8 : Int) * x0) + (4 : Int))) := by omega
theorem q_1242 {x0 : Int} (h0 : (((0 : Int) ≤ x0) ∧ (x0 ≤ (20 : Int)))) : (((0 : Int) ≤ x0) ∧ (x0 ≤ (31 : Int))) := by omega
theorem q_1243 {x0 x1 x2 : Int} (h0 : ((x0 = (((8 : Int) * x1) + (4 : Int))) ∧ (x0 ≤ ((8 : Int) * x2)))) : ((((8 : Int) * x1) ≤ x0) ∧ (x0 ≤ ((8 : Int) * x2))) := by omega
theorem q_1244 {x0 x1 : Int} (h0 : (((6 : Int) ≤ x0) ∧ ((x0 ≤ (9 : Int)) ∧ (((0 : Int) ≤ x1) ∧ (x1 ≤ (63 : Int)))))) : (((0 : Int) ≤ (0 : Int)) ∧ ((0 : Int) ≤ (x1 + (1 : Int)))) := by omega
theorem q_1245 {x0 x1 x2 : Int} (h0 : (((0 : Int) ≤ x0) ∧ ((x0 ≤ (65536 : Int)) ∧ ((x1 ≤ (65536 : Int)) ∧ ((0 : Int) ≤ x1))))) (h1 : (inr x2)) (h2 : ((((8 : Int) * x0) ≤ x2) ∧ (x2 ≤ ((8 : Int) * x1)))) : ((inr (x2 + (7 : Int))) ∧ ((0 : Int) ≤ (x2 + (7 : Int)))) := by omega
theorem q_1246 {x0 x1 x2 x3 x4 : Int} (h0 : (x0 ≤ x1)) (h1 : ((((8 : Int) * x2) ≤ x3) ∧ (x3 ≤ ((8 : Int) * x4)))) (h2 : (((5 : Int) ≤ x0) ∧ (x0 ≤ (20 : Int)))) : ((((x3 + (7 : Int)) / (8 : Int)) = (-(1 : Int))) ∨ ((x2 ≤ ((x3 + (7 : Int)) / (8 : Int))) ∧ ((((x3 + (7 : Int)) / (8 : Int)) ≤ x4) ∧ (((5 : Int) ≤ x0) ∧ (x0 ≤ x1))))) := by omega
theorem q_1247 {x0 : Int} (h0 : (inr x0)) : (inr ((x0 + (7 : Int)) / (8 : Int))) := by omega
theorem q_1248 {x0 : Int} (h0 : ((0 : Int) < x0)) : ((0 : Int) ≤ (x0 + (1 : Int))) := by omega
theorem q_1249 {x0 x1 x2 : Int} (h0 : ((0 : Int) < x0)) (h1 : (((-(1 : Int)) ≤ x1) ∧ (x1 ≤ (30 : Int)))) (h2 : ((((x0 + (1 : Int)) = (0 : Int)) ∧ (x1 = (-(1 : Int)))) ∨ (((1 : Int) ≤ (x0 + (1 : Int))) ∧ (((0 : Int) ≤ x1) ∧ ((x2 ≤ (x0 + (1 : Int))) ∧ ((x0 + (1 : Int)) < ((2 : Int) * x2))))))) : (((0 : Int) ≤ x1) ∧ (x1 ≤ (31 : Int))) := by omega
theorem q_1250 {x0 x1 x2 x3 : Int} (h0 : (((0 : Int) ≤ x0) ∧ ((x0 ≤ (65536 : Int)) ∧ ((x1 ≤ (65536 : Int)) ∧ ((0 : Int) ≤ x1))))) (h1 : ((((8 : Int) * x0) ≤ x2) ∧ (x2 ≤ ((8 : Int) * x1)))) (h2 : (((-(1 : Int)) ≤ x3) ∧ (x3 ≤ (30 : Int)))) : (inr (x2 + x3)) := by omega
theorem q_1251 {x0 x1 : Int} (h0 : (((0 : Int) ≤ x0) ∧ (x0 ≤ (512 : Int)))) (h1 : (((0 : Int) ≤ x1) ∧ (x1 ≤ (x0 + (1 : Int))))) : (((-(1 : Int)) ≤ (x1 - (1 : Int))) ∧ ((x1 - (1 : Int)) ≤ (1048576 : Int))) := by omega
theorem q_1252 {x0 x1 x2 : Int} (h0 : (x0 ≤ x1)) (h1 : (((6 : Int) ≤ x2) ∧ ((x2 ≤ (9 : Int)) ∧ (((0 : Int) ≤ x1) ∧ (x1 ≤ (63 : Int)))))) (h2 : (((0 : Int) ≤ x0) ∧ (x0 ≤ (x1 + (1 : Int))))) : (((0 : Int) ≤ x0) ∧ (x0 < ((256 : Nat) : Int))) := by omega
theorem q_1253 {x0 x1 x2 x3 : Int} (h0 : (((x0 + x1) ≤ x2) ∧ (x2 ≤ ((8 : Int) * x3)))) : ((x2 ≤ x2) ∧ (x2 ≤ ((8 : Int) * x3))) := by omega
theorem q_1254 {x0 x1 : Int} (h0 : (x0 ≤ x1)) : (((x0 + (1 : Int)) ≤ (x0 + (1 : Int))) ∧ ((x0 + (1 : Int)) ≤ (x1 + (1 : Int)))) := by omega
theorem q_1255 {x0 x1 x2 : Int} (h0 : (x0 ≤ x1)) (h1 : (((6 : Int) ≤ x2) ∧ ((x2 ≤ (9 : Int)) ∧ (((0 : Int) ≤ x1) ∧ (x1 ≤ (63 : Int)))))) (h2 : (((0 : Int) ≤ x0) ∧ (x0 ≤ (x1 + (1 : Int))))) : (inr (x0 + (1 : Int))) := by omega
theorem q_1256 {x0 x1 x2 : Int} (h0 : (((0 : Int) ≤ x0) ∧ (x0 ≤ (x1 + (1 : Int))))) (h1 : (((x0 + (1 : Int)) ≤ x2) ∧ (x2 ≤ (x1 + (1 : Int))))) : (((0 : Int) ≤ x2) ∧ (x2 ≤ (x1 + (1 : Int)))) := by omega
theorem q_1257 {x0 x1 x2 : Int} (h0 : ((0 : Int) < x0)) (h1 : (((0 : Int) ≤ x0) ∧ (x0 ≤ (512 : Int)))) (h2 : (((0 : Int) ≤ x1) ∧ (x1 ≤ (x0 + (1 : Int))))) (h3 : (inr x2)) (h4 : (((x1 ≠ (0 : Int)) ∧ (x2 = (x1 - (1 : Int)))) ∨ ((x1 = (0 : Int)) ∧ (x2 = (1 : Int))))) : (inr (x0 - x2)) := by omega
theorem q_1258 {x0 x1 x2 x3 : Int} (h0 : (((0 : Int) ≤ x0) ∧ ((x0 ≤ (65536 : Int)) ∧ ((x1 ≤ (65536 : Int)) ∧ ((0 : Int) ≤ x1))))) (h1 : (inr x2)) (h2 : ((x3 ≤ x2) ∧ (x2 ≤ ((8 : Int) * x1)))) : (inr (x2 + (2 : Int))) := by omega
theorem q_1259 {x0 x1 x2 x3 x4 x5 : Int} (h0 : ((x0 + (2 : Int)) ≤ ((8 : Int) * x1))) (h1 : (((0 : Int) ≤ x2) ∧ ((x2 ≤ (65536 : Int)) ∧ ((x1 ≤ (65536 : Int)) ∧ ((0 : Int) ≤ x1))))) (h2 : ((((8 : Int) * x2) ≤ x3) ∧ (x3 ≤ ((8 : Int) * x1)))) (h3 : ((x4 ≤ x0) ∧ (x0 ≤ ((8 : Int) * x1)))) (h4 : (((x3 + x5) ≤ x4) ∧ (x4 ≤ ((8 : Int) * x1)))) (h5 : (((-(1 : Int)) ≤ x5) ∧ (x5 ≤ (30 : Int)))) : (((0 : Int) ≤ (x0 + (1 : Int))) ∧ ((x0 + (1 : Int)) < (524288 : Int))) := by omega
theorem q_1260 {x0 x1 x2 : Int} (h0 : ((x0 + (2 : Int)) ≤ ((8 : Int) * x1))) (h1 : (((0 : Int) ≤ x2) ∧ ((x2 ≤ (65536 : Int)) ∧ ((x1 ≤ (65536 : Int)) ∧ ((0 : Int) ≤ x1))))) (h2 : (inr x0)) : (inr (x0 + (1 : Int))) := by omega
theorem q_1261 {x0 x1 : Int} (h0 : (((6 : Int) ≤ x0) ∧ ((x0 ≤ (9 : Int)) ∧ (((0 : Int) ≤ x1) ∧ (x1 ≤ (63 : Int)))))) : (inr (x1 + (1 : Int))) := by omega
theorem q_1262 {x0 x1 x2 x3 x4 x5 : Int} (h0 : (((6 : Int) ≤ x0) ∧ ((x0 ≤ (9 : Int)) ∧ (((0 : Int) ≤ x1) ∧ (x1 ≤ (63 : Int)))))) (h1 : (inr x2)) (h2 : (((x3 + (1 : Int)) ≤ x2) ∧ (x2 ≤ (x1 + (1 : Int))))) (h3 : (((0 : Int) ≤ x4) ∧ (x4 ≤ (1 : Int)))) (h4 : (((0 : Int) ≤ x5) ∧ (x5 ≤ (1 : Int)))) : (inr (x2 + (x4 + ((2 : Int) * x5)))) := by omega
theorem q_1263 {x0 x1 : Int} (h0 : (((0 : Int) ≤ x0) ∧ (x0 ≤ (1 : Int)))) (h1 : (((0 : Int) ≤ x1) ∧ (x1 ≤ (1 : Int)))) : (inr (x0 + ((2 : Int) * x1))) := by omega
theorem q_1264 {x0 x1 x2 : Int} (h0 : ((x0 + (2 : Int)) ≤ ((8 : Int) * x1))) (h1 : ((x2 ≤ x0) ∧ (x0 ≤ ((8 : Int) * x1)))) : ((x2 ≤ (x0 + (2 : Int))) ∧ ((x0 + (2 : Int)) ≤ ((8 : Int) * x1))) := by omega
theorem q_1265 {x0 x1 x2 x3 x4 : Int} (h0 : ((x0 + (x1 + ((2 : Int) * x2))) ≤ (x3 + (1 : Int)))) (h1 : (((x4 + (1 : Int)) ≤ x0) ∧ (x0 ≤ (x3 + (1 : Int))))) (h2 : (((0 : Int) ≤ x1) ∧ (x1 ≤ (1 : Int)))) (h3 : (((0 : Int) ≤ x2) ∧ (x2 ≤ (1 : Int)))) : (((x4 + (1 : Int)) ≤ (x0 + (x1 + ((2 : Int) * x2)))) ∧ ((x0 + (x1 + ((2 : Int) * x2))) ≤ (x3 + (1 : Int)))) := by omega
theorem q_1266 {x0 x1 x2 x3 x4 : Int} (h0 : ((x0 + (x1 + ((2 : Int) * x2))) ≤ (x3 + (1 : Int)))) (h1 : (((6 : Int) ≤ x4) ∧ ((x4 ≤ (9 : Int)) ∧ (((0 : Int) ≤ x3) ∧ (x3 ≤ (63 : Int)))))) (h2 : (inr x0)) (h3 : (((0 : Int) ≤ x1) ∧ (x1 ≤ (1 : Int)))) (h4 : (((0 : Int) ≤ x2) ∧ (x2 ≤ (1 : Int)))) : (inr (x0 + (x1 + ((2 : Int) * x2)))) := by omega
theorem q_1267 {x0 x1 x2 : Int} (h0 : ((x0 + (2 : Int)) ≤ ((8 : Int) * x1))) (h1 : (((0 : Int) ≤ x2) ∧ ((x2 ≤ (65536 : Int)) ∧ ((x1 ≤ (65536 : Int)) ∧ ((0 : Int) ≤ x1))))) (h2 : (inr x0)) : (inr (x0 + (2 : Int))) := by omega
theorem q_1268 {x0 x1 : Int} : ((((8 : Int) * x0) - (x1 + (2 : Int))) < (((8 : Int) * x0) - x1)) := by omega
theorem q_1269 {x0 x1 : Int} (h0 : ((x0 + (2 : Int)) ≤ ((8 : Int) * x1))) : ((0 : Int) < (((8 : Int) * x1) - x0)) := by omega
theorem q_1270 {x0 x1 x2 x3 x4 : Int} (h0 : ((x0 + (x1 + ((2 : Int) * x2))) ≤ (x3 + (1 : Int)))) (h1 : ((x1 + ((2 : Int) * x2)) = (3 : Int))) (h2 : (((x4 + (1 : Int)) ≤ x0) ∧ (x0 ≤ (x3 + (1 : Int))))) : (((x4 + (1 : Int)) ≤ (x0 + (x1 + ((2 : Int) * x2)))) ∧ ((x0 + (x1 + ((2 : Int) * x2))) ≤ (x3 + (1 : Int)))) := by omega
theorem q_1271 {x0 x1 x2 x3 x4 : Int} (h0 : ((x0 + (x1 + ((2 : Int) * x2))) ≤ (x3 + (1 : Int)))) (h1 : ((x1 + ((2 : Int) * x2)) = (3 : Int))) (h2 : (((6 : Int) ≤ x4) ∧ ((x4 ≤ (9 : Int)) ∧ (((0 : Int) ≤ x3) ∧ (x3 ≤ (63 : Int)))))) (h3 : (inr x0)) : (inr (x0 + (x1 + ((2 : Int) * x2)))) := by omega
theorem q_1272 {x0 x1 x2 x3 : Int} : (((-(1 : Int)) = (-(1 : Int))) ∨ ((x0 ≤ (-(1 : Int))) ∧ (((-(1 : Int)) ≤ x1) ∧ (((5 : Int) ≤ x2) ∧ (x2 ≤ x3))))) := by omega
theorem q_1273 {x0 : Int} (h0 : (x0 ≠ (1 : Int))) : (((x0 ≠ (1 : Int)) ∧ ((0 : Int) = (0 : Int))) ∨ ((x0 = (1 : Int)) ∧ ((0 : Int) = (1 : Int)))) := by omega
theorem q_1274 {x0 : Int} (h0 : (x0 = (1 : Int))) : (((x0 ≠ (1 : Int)) ∧ ((1 : Int) = (0 : Int))) ∨ ((x0 = (1 : Int)) ∧ ((1 : Int) = (1 : Int)))) := by omega
theorem q_1275 {x0 x1 : Int} (h0 : (inr x0)) (h1 : (((0 : Int) ≤ x0) ∧ (x0 ≤ (x1 + (1 : Int))))) : (inr (x0 - (1 : Int))) := by omega
theorem q_1276 {x0 x1 x2 : Int} (h0 : ((0 : Int) < x0)) (h1 : (((0 : Int) ≤ x0) ∧ (x0 ≤ (512 : Int)))) (h2 : ((((x0 + (1 : Int)) = (0 : Int)) ∧ (x1 = (-(1 : Int)))) ∨ (((1 : Int) ≤ (x0 + (1 : Int))) ∧ (((0 : Int) ≤ x1) ∧ ((x2 ≤ (x0 + (1 : Int))) ∧ ((x0 + (1 : Int)) < ((2 : Int) * x2))))))) : (inr ((((2 : Int) * x2) - (2 : Int)) - x0)) := by omega
theorem q_1277 {x0 x1 x2 : Int} (h0 : ((x0 + x1) ≤ ((8 : Int) * x2))) : (((x0 + x1) ≤ (x0 + x1)) ∧ ((x0 + x1) ≤ ((8 : Int) * x2))) := by omega
theorem q_1278 {x0 x1 x2 x3 x4 : Int} (h0 : (x0 < ((((2 : Int) * x1) - (2 : Int)) - x2))) (h1 : ((0 : Int) < x2)) (h2 : (inr x0)) (h3 : (((0 : Int) ≤ x0) ∧ (x0 < x3))) (h4 : ((((x2 + (1 : Int)) = (0 : Int)) ∧ (x4 = (-(1 : Int)))) ∨ (((1 : Int) ≤ (x2 + (1 : Int))) ∧ (((0 : Int) ≤ x4) ∧ ((x1 ≤ (x2 + (1 : Int))) ∧ ((x2 + (1 : Int)) < ((2 : Int) * x1))))))) : (((0 : Int) ≤ x0) ∧ (x0 ≤ (x2 + (1 : Int)))) := by omega
theorem q_1279 {x0 x1 x2 x3 : Int} (h0 : ((x0 + x1) ≤ ((8 : Int) * x2))) (h1 : (((0 : Int) ≤ x3) ∧ ((x3 ≤ (65536 : Int)) ∧ ((x2 ≤ (65536 : Int)) ∧ ((0 : Int) ≤ x2))))) (h2 : ((((8 : Int) * x3) ≤ x0) ∧ (x0 ≤ ((8 : Int) * x2)))) (h3 : (((-(1 : Int)) ≤ x1) ∧ (x1 ≤ (30 : Int)))) : (inr (x0 + x1)) := by omega
theorem q_1280 {x0 x1 x2 x3 : Int} (h0 : ((x0 + x1) ≤ ((8 : Int) * x2))) (h1 : (((0 : Int) ≤ x3) ∧ ((x3 ≤ (65536 : Int)) ∧ ((x2 ≤ (65536 : Int)) ∧ ((0 : Int) ≤ x2))))) (h2 : (inr x0)) (h3 : (((-(1 : Int)) ≤ x1) ∧ (x1 ≤ (30 : Int)))) : (inr ((x0 + x1) + (1 : Int))) := by omega
theorem q_1281 {x0 x1 x2 x3 x4 x5 x6 : Int} (h0 : (((x0 + x1) + (1 : Int)) ≤ ((8 : Int) * x2))) (h1 : ((0 : Int) < x3)) (h2 : (((0 : Int) ≤ x4) ∧ ((x4 ≤ (65536 : Int)) ∧ ((x2 ≤ (65536 : Int)) ∧ ((0 : Int) ≤ x2))))) (h3 : (inr x0)) (h4 : ((((8 : Int) * x4) ≤ x0) ∧ (x0 ≤ ((8 : Int) * x2)))) (h5 : ((0 : Int) ≤ x5)) (h6 : ((x5 ≤ (0 : Int)) ∨ (x5 ≤ x1))) (h7 : (((-(1 : Int)) ≤ x1) ∧ (x1 ≤ (30 : Int)))) (h8 : ((((x3 + (1 : Int)) = (0 : Int)) ∧ (x1 = (-(1 : Int)))) ∨ (((1 : Int) ≤ (x3 + (1 : Int))) ∧ (((0 : Int) ≤ x1) ∧ ((x6 ≤ (x3 + (1 : Int))) ∧ ((x3 + (1 : Int)) < ((2 : Int) * x6))))))) : (((0 : Int) ≤ (x0 + x1)) ∧ ((x0 + x1) < (524288 : Int))) := by omega
theorem q_1282 {x0 x1 x2 x3 : Int} (h0 : (((x0 + x1) + (1 : Int)) ≤ ((8 : Int) * x2))) (h1 : (((0 : Int) ≤ x3) ∧ ((x3 ≤ (65536 : Int)) ∧ ((x2 ≤ (65536 : Int)) ∧ ((0 : Int) ≤ x2))))) (h2 : ((((8 : Int) * x3) ≤ x0) ∧ (x0 ≤ ((8 : Int) * x2)))) (h3 : (((-(1 : Int)) ≤ x1) ∧ (x1 ≤ (30 : Int)))) : (inr (x0 + x1)) := by omega
theorem q_1283 {x0 x1 x2 x3 : Int} (h0 : ((0 : Int) < x0)) (h1 : ((0 : Int) ≤ x1)) (h2 : ((x1 ≤ (0 : Int)) ∨ (x1 ≤ x2))) (h3 : (((-(1 : Int)) ≤ x2) ∧ (x2 ≤ (30 : Int)))) (h4 : ((((x0 + (1 : Int)) = (0 : Int)) ∧ (x2 = (-(1 : Int)))) ∨ (((1 : Int) ≤ (x0 + (1 : Int))) ∧ (((0 : Int) ≤ x2) ∧ ((x3 ≤ (x0 + (1 : Int))) ∧ ((x0 + (1 : Int)) < ((2 : Int) * x3))))))) : (((0 : Int) ≤ x2) ∧ (x2 ≤ (31 : Int))) := by omega
theorem q_1284 {x0 x1 x2 x3 : Int} (h0 : (((((2 : Int) * x0) - (2 : Int)) - x1) ≤ x2)) (h1 : ((0 : Int) < x1)) (h2 : (((0 : Int) ≤ x1) ∧ (x1 ≤ (512 : Int)))) (h3 : (inr x2)) (h4 : ((((x1 + (1 : Int)) = (0 : Int)) ∧ (x3 = (-(1 : Int)))) ∨ (((1 : Int) ≤ (x1 + (1 : Int))) ∧ (((0 : Int) ≤ x3) ∧ ((x0 ≤ (x1 + (1 : Int))) ∧ ((x1 + (1 : Int)) < ((2 : Int) * x0))))))) : (inr x0) := by omega
theorem q_1285 {x0 x1 x2 : Int} (h0 : (((x0 + x1) + (1 : Int)) ≤ ((8 : Int) * x2))) : (((x0 + x1) ≤ ((x0 + x1) + (1 : Int))) ∧ (((x0 + x1) + (1 : Int)) ≤ ((8 : Int) * x2))) := by omega
theorem q_1286 {x0 x1 x2 x3 : Int} (h0 : (((x0 + x1) + (1 : Int)) ≤ ((8 : Int) * x2))) (h1 : (((0 : Int) ≤ x3) ∧ ((x3 ≤ (65536 : Int)) ∧ ((x2 ≤ (65536 : Int)) ∧ ((0 : Int) ≤ x2))))) (h2 : (inr x0)) (h3 : (((-(1 : Int)) ≤ x1) ∧ (x1 ≤ (30 : Int)))) : (inr ((x0 + x1) + (1 : Int))) := by omega
theorem q_1287 {x0 x1 x2 x3 x4 : Int} (h0 : ((x0 + x1) ≤ ((8 : Int) * x2))) (h1 : (x3 < x1)) (h2 : (((0 : Int) ≤ x4) ∧ ((x4 ≤ (65536 : Int)) ∧ ((x2 ≤ (65536 : Int)) ∧ ((0 : Int) ≤ x2))))) (h3 : ((((8 : Int) * x4) ≤ x0) ∧ (x0 ≤ ((8 : Int) * x2)))) (h4 : ((0 : Int) ≤ x3)) : (((0 : Int) ≤ (x0 + x3)) ∧ ((x0 + x3) < (524288 : Int))) := by omega
theorem q_1288 {x0 x1 x2 x3 x4 : Int} (h0 : ((x0 + x1) ≤ ((8 : Int) * x2))) (h1 : (x3 < x1)) (h2 : (((0 : Int) ≤ x4) ∧ ((x4 ≤ (65536 : Int)) ∧ ((x2 ≤ (65536 : Int)) ∧ ((0 : Int) ≤ x2))))) (h3 : (inr x0)) (h4 : ((0 : Int) ≤ x3)) : (inr (x0 + x3)) := by omega
theorem q_1289 {x0 x1 : Int} (h0 : (x0 < x1)) (h1 : ((0 : Int) ≤ x0)) (h2 : (((-(1 : Int)) ≤ x1) ∧ (x1 ≤ (30 : Int)))) : (((0 : Int) ≤ x0) ∧ (x0 ≤ (31 : Int))) := by omega
theorem q_1290 {x0 x1 : Int} (h0 : (x0 < x1)) (h1 : ((0 : Int) ≤ x0)) (h2 : (((-(1 : Int)) ≤ x1) ∧ (x1 ≤ (30 : Int)))) : (inr (x0 + (1 : Int))) := by omega
theorem q_1291 : (((-(1 : Int)) ≤ (0 : Int)) ∧ ((0 : Int) ≤ (1048576 : Int))) := by omega
theorem q_1292 {x0 x1 : Int} (h0 : ((((8 : Int) * x0) + (4 : Int)) ≤ ((8 : Int) * x1))) (h1 : (((0 : Int) ≤ x0) ∧ ((x0 ≤ (65536 : Int)) ∧ ((x1 ≤ (65536 : Int)) ∧ ((0 : Int) ≤ x1))))) : (((0 : Int) ≤ ((8 : Int) * x0)) ∧ (((8 : Int) * x0) < (524288 : Int))) := by omega
theorem q_1293 {x0 x1 : Int} (h0 : (((0 : Int) ≤ x0) ∧ ((x0 ≤ (65536 : Int)) ∧ ((x1 ≤ (65536 : Int)) ∧ ((0 : Int) ≤ x1))))) : (inr ((8 : Int) * x0)) := by omega
theorem q_1294 {x0 x1 : Int} (h0 : ((((8 : Int) * x0) + (4 : Int)) ≤ ((8 : Int) * x1))) (h1 : (((0 : Int) ≤ x0) ∧ ((x0 ≤ (65536 : Int)) ∧ ((x1 ≤ (65536 : Int)) ∧ ((0 : Int) ≤ x1))))) : (((0 : Int) ≤ (((8 : Int) * x0) + (1 : Int))) ∧ ((((8 : Int) * x0) + (1 : Int)) < (524288 : Int))) := by omega
theorem q_1295 {x0 x1 : Int} (h0 : (((0 : Int) ≤ x0) ∧ ((x0 ≤ (65536 : Int)) ∧ ((x1 ≤ (65536 : Int)) ∧ ((0 : Int) ≤ x1))))) : (inr (((8 : Int) * x0) + (1 : Int))) := by omega
theorem q_1296 {x0 x1 : Int} (h0 : ((((8 : Int) * x0) + (4 : Int)) ≤ ((8 : Int) * x1))) (h1 : (((0 : Int) ≤ x0) ∧ ((x0 ≤ (65536 : Int)) ∧ ((x1 ≤ (65536 : Int)) ∧ ((0 : Int) ≤ x1))))) : (((0 : Int) ≤ (((8 : Int) * x0) + (2 : Int))) ∧ ((((8 : Int) * x0) + (2 : Int)) < (524288 : Int))) := by omega
theorem q_1297 {x0 x1 : Int} (h0 : (((0 : Int) ≤ x0) ∧ ((x0 ≤ (65536 : Int)) ∧ ((x1 ≤ (65536 : Int)) ∧ ((0 : Int) ≤ x1))))) : (inr (((8 : Int) * x0) + (2 : Int))) := by omega
theorem q_1298 {x0 x1 : Int} (h0 : ((((8 : Int) * x0) + (4 : Int)) ≤ ((8 : Int) * x1))) (h1 : (((0 : Int) ≤ x0) ∧ ((x0 ≤ (65536 : Int)) ∧ ((x1 ≤ (65536 : Int)) ∧ ((0 : Int) ≤ x1))))) : (((0 : Int) ≤ (((8 : Int) * x0) + (3 : Int))) ∧ ((((8 : Int) * x0) + (3 : Int)) < (524288 : Int))) := by omega
theorem q_1299 {x0 x1 : Int} (h0 : (((0 : Int) ≤ x0) ∧ ((x0 ≤ (65536 : Int)) ∧ ((x1 ≤ (65536 : Int)) ∧ ((0 : Int) ≤ x1))))) : (inr (((8 : Int) * x0) + (3 : Int))) := by omega
theorem q_1300 {x0 x1 x2 x3 : Int} (h0 : (((0 : Int) ≤ x0) ∧ (x0 ≤ (1 : Int)))) (h1 : (((0 : Int) ≤ x1) ∧ (x1 ≤ (1 : Int)))) (h2 : (((0 : Int) ≤ x2) ∧ (x2 ≤ (1 : Int)))) (h3 : (((0 : Int) ≤ x3) ∧ (x3 ≤ (1 : Int)))) : (((0 : Int) ≤ (((((5 : Int) + x0) + ((2 : Int) * x1)) + ((4 : Int) * x2)) + ((8 : Int) * x3))) ∧ ((((((5 : Int) + x0) + ((2 : Int) * x1)) + ((4 : Int) * x2)) + ((8 : Int) * x3)) ≤ (20 : Int))) := by omega
theorem q_1301 {x0 x1 : Int} (h0 : ((((8 : Int) * x0) + (4 : Int)) ≤ ((8 : Int) * x1))) : (((((8 : Int) * x0) + (4 : Int)) = (((8 : Int) * x0) + (4 : Int))) ∧ ((((8 : Int) * x0) + (4 : Int)) ≤ ((8 : Int) * x1))) := by omega
theorem q_1302 {x0 x1 x2 x3 : Int} (h0 : (((0 : Int) ≤ x0) ∧ (x0 ≤ (1 : Int)))) (h1 : (((0 : Int) ≤ x1) ∧ (x1 ≤ (1 : Int)))) (h2 : (((0 : Int) ≤ x2) ∧ (x2 ≤ (1 : Int)))) (h3 : (((0 : Int) ≤ x3) ∧ (x3 ≤ (1 : Int)))) : (((5 : Int) ≤ (((((5 : Int) + x0) + ((2 : Int) * x1)) + ((4 : Int) * x2)) + ((8 : Int) * x3))) ∧ ((((((5 : Int) + x0) + ((2 : Int) * x1)) + ((4 : Int) * x2)) + ((8 : Int) * x3)) ≤ (20 : Int))) := by omega
theorem q_1303 {x0 : Int} (h0 : (((5 : Int) ≤ x0) ∧ (x0 ≤ (9 : Int)))) : (((0 : Int) ≤ x0) ∧ (x0 ≤ (31 : Int))) := by omega
theorem q_1304 {x0 x1 : Int} (h0 : (x0 = (0 : Int))) : (x1 = (x1 - x0)) := by omega
theorem q_1305 {x0 x1 x2 : Int} (h0 : (((0 : Int) ≤ x0) ∧ ((x0 + x1) ≤ (1536 : Int)))) (h1 : (((0 : Int) ≤ x2) ∧ (x2 ≤ x1))) : ((inr x1) ∧ ((0 : Int) ≤ x1)) := by omega
theorem q_1306 {x0 x1 x2 : Int} (h0 : (((0 : Int) ≤ x0) ∧ ((x0 + x1) ≤ (1536 : Int)))) (h1 : (((0 : Int) ≤ x2) ∧ (x2 ≤ x1))) : (inr x1) := by omega
theorem q_1307 {x0 x1 x2 : Int} (h0 : (x0 < x1)) (h1 : (((0 : Int) ≤ x2) ∧ ((x2 + x1) ≤ (1536 : Int)))) (h2 : ((0 : Int) ≤ x0)) : (((0 : Int) ≤ (x2 + x0)) ∧ ((x2 + x0) < ((1536 : Nat) : Int))) := by omega
theorem q_1308 {x0 : Int} (h0 : (((0 : Int) ≤ x0) ∧ (x0 ≤ (4096 : Int)))) : ((0 : Int) ≤ x0) := by omega
theorem q_1309 {x0 : Int} (h0 : (((0 : Int) ≤ x0) ∧ (x0 ≤ (4096 : Int)))) : (inr x0) := by omega
theorem q_1310 {x0 x1 x2 : Int} (h0 : (x0 < x1)) (h1 : (((0 : Int) ≤ x2) ∧ ((x2 + x1) ≤ (1536 : Int)))) (h2 : ((0 : Int) ≤ x0)) : (inr (x0 + (1 : Int))) := by omega
theorem q_1311 {x0 x1 x2 : Int} (h0 : (x0 < x1)) (h1 : (((0 : Int) ≤ x2) ∧ (((1 : Int) ≤ x1) ∧ ((x1 ≤ (64 : Int)) ∧ ((x2 + x1) ≤ (192 : Int)))))) (h2 : ((0 : Int) ≤ x0)) : (((0 : Int) ≤ (x2 + x0)) ∧ ((x2 + x0) < ((192 : Nat) : Int))) := by omega
theorem q_1312 {x0 : Int} (h0 : (((-(1 : Int)) ≤ x0) ∧ (x0 ≤ (512 : Int)))) : (inr x0) := by omega
theorem q_1313 {x0 x1 x2 : Int} (h0 : (x0 < x1)) (h1 : (((0 : Int) ≤ x2) ∧ (((1 : Int) ≤ x1) ∧ ((x1 ≤ (64 : Int)) ∧ ((x2 + x1) ≤ (192 : Int)))))) (h2 : ((x1 * (5 : Int)) ≤ (1536 : Int))) (h3 : ((0 : Int) ≤ x0)) : (((0 : Int) ≤ x0) ∧ (x0 < ((256 : Nat) : Int))) := by omega
theorem q_1314 {x0 x1 : Int} (h0 : (x0 < x1)) (h1 : ((x1 * (5 : Int)) ≤ (1536 : Int))) (h2 : ((0 : Int) ≤ x0)) : (inr (x0 + (1 : Int))) := by omega
theorem q_1315 : (((0 : Int) ≤ (1 : Int)) ∧ ((1 : Int) ≤ (4096 : Int))) := by omega
theorem q_1316 {x0 : Int} (h0 : (((-(1 : Int)) ≤ x0) ∧ (x0 ≤ (63 : Int)))) : (inr x0) := by omega
theorem q_1317 {x0 x1 x2 : Int} (h0 : (x0 < x1)) (h1 : (((0 : Int) ≤ x2) ∧ (((1 : Int) ≤ x1) ∧ ((x1 ≤ (64 : Int)) ∧ ((x2 + x1) ≤ (192 : Int)))))) (h2 : ((0 : Int) ≤ x0)) : (((-(1 : Int)) ≤ x0) ∧ (x0 ≤ (63 : Int))) := by omega
theorem q_1318 {x0 x1 x2 : Int} (h0 : (x0 < x1)) (h1 : (((0 : Int) ≤ x0) ∧ (x0 ≤ x2))) (h2 : (((-(1 : Int)) ≤ x1) ∧ (x1 ≤ (512 : Int)))) : (inr (x0 + (1 : Int))) := by omega
theorem q_1319 {x0 x1 x2 : Int} (h0 : (x0 = (-(1 : Int)))) (h1 : (x1 = x0)) (h2 : (x2 = x1)) : (x2 < (0 : Int)) := by omega
theorem q_1320 {x0 x1 : Int} (h0 : (inr x0)) (h1 : (((0 : Int) ≤ x0) ∧ (x0 ≤ x1))) : (inr (x0 + (-(1 : Int)))) := by omega
theorem q_1321 : (((-(1 : Int)) ≤ (-(1 : Int))) ∧ ((-(1 : Int)) ≤ (63 : Int))) := by omega
theorem q_1322 {x0 x1 x2 : Int} (h0 : (((0 : Int) ≤ x0) ∧ ((x0 + x1) ≤ (64 : Int)))) (h1 : (((0 : Int) ≤ x2) ∧ (x2 ≤ x1))) : ((inr x1) ∧ ((0 : Int) ≤ x1)) := by omega
theorem q_1323 {x0 x1 x2 : Int} (h0 : (((0 : Int) ≤ x0) ∧ ((x0 + x1) ≤ (64 : Int)))) (h1 : (((0 : Int) ≤ x2) ∧ (x2 ≤ x1))) : (inr x1) := by omega
theorem q_1324 {x0 x1 x2 : Int} (h0 : (x0 < x1)) (h1 : (((0 : Int) ≤ x2) ∧ ((x2 + x1) ≤ (64 : Int)))) (h2 : ((0 : Int) ≤ x0)) : (((0 : Int) ≤ (x2 + x0)) ∧ ((x2 + x0) < ((64 : Nat) : Int))) := by omega
theorem q_1325 {x0 x1 x2 : Int} (h0 : (x0 < x1)) (h1 : (((0 : Int) ≤ x2) ∧ ((x2 + x1) ≤ (64 : Int)))) (h2 : ((0 : Int) ≤ x0)) : (inr (x0 + (1 : Int))) := by omega
theorem q_1326 {x0 x1 x2 : Int} (h0 : (x0 < x1)) (h1 : (((0 : Int) ≤ x2) ∧ (((1 : Int) ≤ x1) ∧ ((x1 ≤ (64 : Int)) ∧ ((x2 + x1) ≤ (256 : Int)))))) (h2 : ((0 : Int) ≤ x0)) : (((0 : Int) ≤ (x2 + x0)) ∧ ((x2 + x0) < ((256 : Nat) : Int))) := by omega
theorem q_1327 {x0 : Int} (h0 : (((-(1 : Int)) ≤ x0) ∧ (x0 ≤ (1048576 : Int)))) : (inr x0) := by omega
theorem q_1328 {x0 x1 : Int} (h0 : (x0 < x1)) (h1 : ((x1 * (5 : Int)) ≤ (64 : Int))) (h2 : ((0 : Int) ≤ x0)) : (((0 : Int) ≤ x0) ∧ (x0 < ((256 : Nat) : Int))) := by omega
theorem q_1329 {x0 x1 : Int} (h0 : (x0 < x1)) (h1 : ((x1 * (5 : Int)) ≤ (64 : Int))) (h2 : ((0 : Int) ≤ x0)) : (inr (x0 + (1 : Int))) := by omega
theorem q_1330 {x0 : Int} (h0 : (((-(1 : Int)) ≤ x0) ∧ (x0 ≤ (11 : Int)))) : (inr x0) := by omega
theorem q_1331 {x0 x1 : Int} (h0 : (x0 < x1)) (h1 : ((x1 * (5 : Int)) ≤ (64 : Int))) (h2 : ((0 : Int) ≤ x0)) : (((-(1 : Int)) ≤ x0) ∧ (x0 ≤ (11 : Int))) := by omega
theorem q_1332 : (((-(1 : Int)) ≤ (-(1 : Int))) ∧ ((-(1 : Int)) ≤ (11 : Int))) := by omega
theorem q_1333 {x0 : Int} (h0 : (((0 : Int) ≤ x0) ∧ (x0 ≤ (2 : Int)))) : (((0 : Int) ≤ x0) ∧ (x0 < ((3 : Nat) : Int))) := by omega
theorem q_1334 : (((64 : Int) * (5 : Int)) ≤ (1536 : Int)) := by omega
theorem q_1335 {x0 : Int} (h0 : (((0 : Int) ≤ x0) ∧ (x0 ≤ (2 : Int)))) : (((0 : Int) ≤ ((64 : Int) * x0)) ∧ (((1 : Int) ≤ (64 : Int)) ∧ (((64 : Int) ≤ (64 : Int)) ∧ ((((64 : Int) * x0) + (64 : Int)) ≤ (192 : Int))))) := by omega
theorem q_1336 {x0 : Int} (h0 : (((0 : Int) ≤ x0) ∧ (x0 ≤ (2 : Int)))) : (inr ((512 : Int) * x0)) := by omega
theorem q_1337 {x0 : Int} (h0 : (((-(1 : Int)) ≤ x0) ∧ (x0 ≤ (9 : Int)))) : (inr x0) := by omega
theorem q_1338 {x0 : Int} (h0 : (((0 : Int) ≤ x0) ∧ (x0 ≤ (2 : Int)))) : (inr ((64 : Int) * x0)) := by omega
theorem q_1339 : (((0 : Int) ≤ (0 : Int)) ∨ ((0 : Int) ≤ (64 : Int))) := by omega
theorem q_1340 {x0 : Int} (h0 : (x0 < (64 : Int))) (h1 : ((0 : Int) ≤ x0)) : (((0 : Int) ≤ x0) ∧ (x0 < ((256 : Nat) : Int))) := by omega
theorem q_1341 {x0 x1 : Int} (h0 : (x0 < (64 : Int))) (h1 : (((0 : Int) ≤ x1) ∧ (x1 ≤ (2 : Int)))) (h2 : ((0 : Int) ≤ x0)) : (((0 : Int) ≤ (((64 : Int) * x1) + x0)) ∧ ((((64 : Int) * x1) + x0) < ((192 : Nat) : Int))) := by omega
theorem q_1342 {x0 : Int} (h0 : (x0 < (64 : Int))) : (((x0 + (1 : Int)) ≤ (0 : Int)) ∨ ((x0 + (1 : Int)) ≤ (64 : Int))) := by omega
theorem q_1343 {x0 : Int} (h0 : (x0 < (64 : Int))) (h1 : ((0 : Int) ≤ x0)) : (inr (x0 + (1 : Int))) := by omega
theorem q_1344 {x0 : Int} : (((64 : Int) - (x0 + (1 : Int))) < ((64 : Int) - x0)) := by omega
theorem q_1345 {x0 : Int} (h0 : (x0 < (64 : Int))) : ((0 : Int) < ((64 : Int) - x0)) := by omega
theorem q_1346 {x0 x1 : Int} : ((x0 + x1) = (x0 + x1)) := by omega
theorem q_1347 {x0 x1 : Int} (h0 : (((0 : Int) ≤ x0) ∧ (((0 : Int) ≤ x1) ∧ ((x0 + x1) ≤ (64 : Int))))) : (inr (x0 + x1)) := by omega
theorem q_1348 {x0 : Int} (h0 : (((-(1 : Int)) ≤ x0) ∧ (x0 ≤ (4 : Int)))) : (((-(1 : Int)) ≤ x0) ∧ (x0 ≤ (512 : Int))) := by omega
theorem q_1349 {x0 x1 x2 x3 : Int} (h0 : (x0 < x1)) (h1 : (((0 : Int) ≤ x2) ∧ (x2 ≤ (2 : Int)))) (h2 : (((0 : Int) ≤ x3) ∧ (((0 : Int) ≤ x1) ∧ ((x3 + x1) ≤ (64 : Int))))) (h3 : ((0 : Int) ≤ x0)) : (((0 : Int) ≤ ((((64 : Int) * x2) + x3) + x0)) ∧ (((((64 : Int) * x2) + x3) + x0) < ((192 : Nat) : Int))) := by omega
theorem q_1350 {x0 x1 x2 : Int} (h0 : (x0 < x1)) (h1 : (((0 : Int) ≤ x2) ∧ (((0 : Int) ≤ x1) ∧ ((x2 + x1) ≤ (64 : Int))))) (h2 : ((0 : Int) ≤ x0)) : (inr (x0 + (1 : Int))) := by omega
theorem q_1351 : (((-(1 : Int)) ≤ (0 : Int)) ∧ ((0 : Int) ≤ (4 : Int))) := by omega
theorem q_1352 : (((0 : Int) ≤ (0 : Int)) ∧ (((0 : Int) ≤ (64 : Int)) ∧ (((0 : Int) + (64 : Int)) ≤ (64 : Int)))) := by omega
theorem q_1353 : (((-(1 : Int)) ≤ (1 : Int)) ∧ ((1 : Int) ≤ (4 : Int))) := by omega
theorem q_1354 : (((0 : Int) ≤ (0 : Int)) ∧ (((0 : Int) ≤ (1 : Int)) ∧ (((0 : Int) + (1 : Int)) ≤ (64 : Int)))) := by omega
theorem q_1355 : (((-(1 : Int)) ≤ (4 : Int)) ∧ ((4 : Int) ≤ (4 : Int))) := by omega
theorem q_1356 {x0 : Int} (h0 : (x0 = ((0 : Int) + (1 : Int)))) : (((0 : Int) ≤ x0) ∧ (((0 : Int) ≤ (1 : Int)) ∧ ((x0 + (1 : Int)) ≤ (64 : Int)))) := by omega
theorem q_1357 : (((-(1 : Int)) ≤ (3 : Int)) ∧ ((3 : Int) ≤ (4 : Int))) := by omega
theorem q_1358 {x0 x1 : Int} (h0 : (x0 = ((0 : Int) + (1 : Int)))) (h1 : (x1 = (x0 + (1 : Int)))) : (((0 : Int) ≤ x1) ∧ (((0 : Int) ≤ (1 : Int)) ∧ ((x1 + (1 : Int)) ≤ (64 : Int)))) := by omega
theorem q_1359 : (((-(1 : Int)) ≤ (2 : Int)) ∧ ((2 : Int) ≤ (4 : Int))) := by omega
theorem q_1360 {x0 x1 x2 : Int} (h0 : (x0 = ((0 : Int) + (1 : Int)))) (h1 : (x1 = (x0 + (1 : Int)))) (h2 : (x2 = (x1 + (1 : Int)))) : (((0 : Int) ≤ x2) ∧ (((0 : Int) ≤ (6 : Int)) ∧ ((x2 + (6 : Int)) ≤ (64 : Int)))) := by omega
theorem q_1361 {x0 x1 x2 x3 : Int} (h0 : (x0 = ((0 : Int) + (1 : Int)))) (h1 : (x1 = (x0 + (1 : Int)))) (h2 : (x2 = (x1 + (1 : Int)))) (h3 : (x3 = (x2 + (6 : Int)))) : (((0 : Int) ≤ x3) ∧ (((0 : Int) ≤ (37 : Int)) ∧ ((x3 + (37 : Int)) ≤ (64 : Int)))) := by omega
theorem q_1362 : (inr (37 : Int)) := by omega
theorem q_1363 : (((-(1 : Int)) ≤ (-(1 : Int))) ∧ ((-(1 : Int)) ≤ (4 : Int))) := by omega
theorem q_1364 : (((-(1 : Int)) ≤ (6 : Int)) ∧ ((6 : Int) ≤ (9 : Int))) := by omega
theorem q_1365 : (((-(1 : Int)) ≤ (5 : Int)) ∧ ((5 : Int) ≤ (9 : Int))) := by omega
theorem q_1366 {x0 : Int} (h0 : (x0 = (1 : Int))) (h1 : (((0 : Int) ≤ x0) ∧ (x0 ≤ (2 : Int)))) : (((0 : Int) ≤ x0) ∧ (x0 < ((3 : Nat) : Int))) := by omega
theorem q_1367 : (((0 : Int) ≤ (0 : Int)) ∧ (((0 : Int) ≤ (6 : Int)) ∧ (((0 : Int) + (6 : Int)) ≤ (64 : Int)))) := by omega
theorem q_1368 {x0 : Int} (h0 : (x0 = ((0 : Int) + (6 : Int)))) : (((0 : Int) ≤ x0) ∧ (((0 : Int) ≤ (3 : Int)) ∧ ((x0 + (3 : Int)) ≤ (64 : Int)))) := by omega
theorem q_1369 {x0 x1 : Int} (h0 : (x0 = ((0 : Int) + (6 : Int)))) (h1 : (x1 = (x0 + (3 : Int)))) : (((0 : Int) ≤ x1) ∧ (((0 : Int) ≤ (15 : Int)) ∧ ((x1 + (15 : Int)) ≤ (64 : Int)))) := by omega
theorem q_1370 {x0 x1 x2 : Int} (h0 : (x0 = ((0 : Int) + (6 : Int)))) (h1 : (x1 = (x0 + (3 : Int)))) (h2 : (x2 = (x1 + (15 : Int)))) : (((0 : Int) ≤ x2) ∧ (((0 : Int) ≤ (5 : Int)) ∧ ((x2 + (5 : Int)) ≤ (64 : Int)))) := by omega
theorem q_1371 {x0 x1 : Int} (h0 : (x0 = ((0 : Int) + (1 : Int)))) (h1 : (x1 = (x0 + (1 : Int)))) : (((0 : Int) ≤ x1) ∧ (((0 : Int) ≤ (11 : Int)) ∧ ((x1 + (11 : Int)) ≤ (64 : Int)))) := by omega
theorem q_1372 {x0 x1 x2 : Int} (h0 : (x0 = ((0 : Int) + (1 : Int)))) (h1 : (x1 = (x0 + (1 : Int)))) (h2 : (x2 = (x1 + (11 : Int)))) : (((0 : Int) ≤ x2) ∧ (((0 : Int) ≤ (3 : Int)) ∧ ((x2 + (3 : Int)) ≤ (64 : Int)))) := by omega
theorem q_1373 {x0 x1 x2 x3 : Int} (h0 : (x0 = ((0 : Int) + (1 : Int)))) (h1 : (x1 = (x0 + (1 : Int)))) (h2 : (x2 = (x1 + (11 : Int)))) (h3 : (x3 = (x2 + (3 : Int)))) : (((0 : Int) ≤ x3) ∧ (((0 : Int) ≤ (9 : Int)) ∧ ((x3 + (9 : Int)) ≤ (64 : Int)))) := by omega
theorem q_1374 {x0 : Int} (h0 : (x0 = (0 : Int))) (h1 : (((0 : Int) ≤ x0) ∧ (x0 ≤ (2 : Int)))) : (((0 : Int) ≤ x0) ∧ (x0 < ((3 : Nat) : Int))) := by omega
theorem q_1375 {x0 x1 x2 x3 : Int} (h0 : (((0 : Int) ≤ x0) ∧ ((x0 ≤ (65536 : Int)) ∧ (((0 : Int) ≤ x1) ∧ (x1 ≤ (65536 : Int)))))) (h1 : (((-(100 : Int)) ≤ x2) ∧ (x2 ≤ (524288 : Int)))) (h2 : (((0 : Int) ≤ x3) ∧ (x3 ≤ (524288 : Int)))) : (((0 : Int) = (1 : Int)) → ((x0 < x1) ∧ ((x3 = ((8 : Int) * x0)) ∧ (((0 : Int) ≤ x2) ∧ (x2 ≤ (((8 : Int) * (x1 - x0)) - (1 : Int))))))) := by omega
theorem q_1376 {x0 x1 : Int} (h0 : (x0 < x1)) (h1 : (((0 : Int) ≤ x0) ∧ ((x0 ≤ (65536 : Int)) ∧ (((0 : Int) ≤ x1) ∧ (x1 ≤ (65536 : Int)))))) : (((0 : Int) ≤ (x1 - (1 : Int))) ∧ ((x1 - (1 : Int)) < ((65536 : Nat) : Int))) := by omega
theorem q_1377 {x0 x1 : Int} (h0 : (((0 : Int) ≤ x0) ∧ ((x0 ≤ (65536 : Int)) ∧ (((0 : Int) ≤ x1) ∧ (x1 ≤ (65536 : Int)))))) : (((0 : Int) ≤ ((8 : Int) * x0)) ∧ (((8 : Int) * x0) ≤ (524288 : Int))) := by omega
theorem q_1378 {x0 : Int} (h0 : (((0 : Int) ≤ x0) ∧ (x0 ≤ (255 : Int)))) : ((0 : Int) ≤ x0) := by omega
theorem q_1379 {x0 x1 x2 x3 : Int} (h0 : (x0 < x1)) (h1 : (((0 : Int) ≤ x0) ∧ ((x0 ≤ (65536 : Int)) ∧ (((0 : Int) ≤ x1) ∧ (x1 ≤ (65536 : Int)))))) (h2 : (((-(100 : Int)) ≤ x2) ∧ (x2 ≤ (524288 : Int)))) (h3 : (((0 : Int) ≤ x3) ∧ (x3 ≤ (524288 : Int)))) : (((0 : Int) = (1 : Int)) → ((x0 < x1) ∧ ((x3 = ((8 : Int) * x0)) ∧ (((0 : Int) ≤ x2) ∧ (x2 ≤ (((8 : Int) * (x1 - x0)) - (1 : Int))))))) := by omega
theorem q_1380 {x0 : Int} : (x0 = (x0 - (0 : Int))) := by omega
theorem q_1381 {x0 x1 x2 x3 : Int} (h0 : (x0 ≤ x1)) (h1 : (((0 : Int) ≤ x0) ∧ (x0 ≤ (31 : Int)))) (h2 : ((x1 ≤ (0 : Int)) ∨ (x1 ≤ x0))) (h3 : (x2 = (x3 - x1))) : (x2 = (x3 - x0)) := by omega
theorem q_1382 {x0 x1 x2 x3 : Int} (h0 : (x0 < x1)) (h1 : (x1 ≤ x2)) (h2 : (x3 = (x2 - x0))) (h3 : (((-(100 : Int)) ≤ x3) ∧ (x3 ≤ (524288 : Int)))) : (((-(100 : Int)) ≤ (x3 - (1 : Int))) ∧ ((x3 - (1 : Int)) ≤ (524288 : Int))) := by omega
theorem q_1383 {x0 x1 x2 x3 x4 : Int} (h0 : (x0 < x1)) (h1 : (((0 : Int) ≤ x2) ∧ ((x2 + x3) ≤ (524288 : Int)))) (h2 : (x1 ≤ x3)) (h3 : ((0 : Int) ≤ x0)) (h4 : (x4 = (x3 - x0))) (h5 : (((0 : Int) ≤ x2) ∧ (x2 ≤ (524288 : Int)))) : (((0 : Int) ≤ (x2 + (x4 - (1 : Int)))) ∧ ((x2 + (x4 - (1 : Int))) < (524288 : Int))) := by omega
theorem q_1384 {x0 x1 : Int} (h0 : (((0 : Int) ≤ x0) ∧ (x0 ≤ (524288 : Int)))) (h1 : (((-(100 : Int)) ≤ x1) ∧ (x1 ≤ (524288 : Int)))) : (inr (x0 + (x1 - (1 : Int)))) := by omega
theorem q_1385 {x0 x1 x2 : Int} (h0 : (x0 = (x1 - x2))) : ((x0 - (1 : Int)) = (x1 - (x2 + (1 : Int)))) := by omega
theorem q_1386 {x0 x1 : Int} (h0 : (x0 < x1)) (h1 : (((0 : Int) ≤ x1) ∧ (x1 ≤ (31 : Int)))) (h2 : ((0 : Int) ≤ x0)) : (inr (x0 + (1 : Int))) := by omega
theorem q_1387 : ((1 : Int) ≤ (1 : Int)) := by omega
theorem q_1388 {x0 : Int} : (((1 : Int) ≤ (1 : Int)) ∨ ((1 : Int) ≤ (x0 + (1 : Int)))) := by omega
theorem q_1389 {x0 : Int} (h0 : (((0 : Int) ≤ x0) ∧ (x0 ≤ (11 : Int)))) : (inr x0) := by omega
theorem q_1390 {x0 x1 : Int} (h0 : (x0 ≤ x1)) : (((x0 + (1 : Int)) ≤ (1 : Int)) ∨ ((x0 + (1 : Int)) ≤ (x1 + (1 : Int)))) := by omega
theorem q_1391 {x0 x1 : Int} (h0 : (x0 ≤ x1)) (h1 : ((1 : Int) ≤ x0)) (h2 : (((0 : Int) ≤ x1) ∧ (x1 ≤ (11 : Int)))) : (inr (x0 + (1 : Int))) := by omega
theorem q_1392 {x0 x1 : Int} (h0 : (((0 : Int) ≤ x0) ∧ (x0 ≤ (11 : Int)))) (h1 : (((0 : Int) ≤ x1) ∧ (x1 ≤ (11 : Int)))) : (inr ((x1 + (1 : Int)) - x0)) := by omega
theorem q_1393 {x0 x1 : Int} (h0 : (x0 ≤ x1)) (h1 : ((1 : Int) ≤ x0)) (h2 : (((0 : Int) ≤ x1) ∧ (x1 ≤ (11 : Int)))) : (((0 : Int) ≤ (x0 - (1 : Int))) ∧ ((x0 - (1 : Int)) ≤ (31 : Int))) := by omega
theorem q_1394 {x0 : Int} (h0 : (x0 < (256 : Int))) (h1 : ((0 : Int) ≤ x0)) : (((0 : Int) ≤ x0) ∧ (x0 ≤ (255 : Int))) := by omega
theorem q_1395 {x0 x1 : Int} (h0 : (x0 < x1)) (h1 : (((0 : Int) ≤ x0) ∧ (x0 ≤ x1))) : (((0 : Int) ≤ (x0 + (1 : Int))) ∧ ((x0 + (1 : Int)) ≤ x1)) := by omega
theorem q_1396 {x0 : Int} (h0 : ((0 : Int) < x0)) : ((0 : Int) ≤ x0) := by omega
theorem q_1397 {x0 x1 x2 : Int} (h0 : ((0 : Int) < x0)) (h1 : (((-(1 : Int)) ≤ x1) ∧ (x1 ≤ (30 : Int)))) (h2 : (((x0 = (0 : Int)) ∧ (x1 = (-(1 : Int)))) ∨ (((1 : Int) ≤ x0) ∧ (((0 : Int) ≤ x1) ∧ ((x2 ≤ x0) ∧ (x0 < ((2 : Int) * x2))))))) : (((0 : Int) ≤ x1) ∧ (x1 ≤ (31 : Int))) := by omega
theorem q_1398 {x0 x1 x2 : Int} {p0 : Prop} (h0 : ((0 : Int) < x0)) (h1 : (inr x0)) (h2 : ((x1 ≠ x0) → (¬ p0))) (h3 : (((x0 = (0 : Int)) ∧ (x2 = (-(1 : Int)))) ∨ (((1 : Int) ≤ x0) ∧ (((0 : Int) ≤ x2) ∧ ((x1 ≤ x0) ∧ (x0 < ((2 : Int) * x1))))))) : (inr x1) := by omega
theorem q_1399 : (((6 : Int) ≤ (6 : Int)) ∧ (((6 : Int) ≤ (9 : Int)) ∧ (((0 : Int) ≤ (11 : Int)) ∧ ((11 : Int) ≤ (63 : Int))))) := by omega
theorem q_1400 {x0 x1 : Int} (h0 : (((0 : Int) ≤ x0) ∧ ((x0 ≤ (65536 : Int)) ∧ (((0 : Int) ≤ x1) ∧ (x1 ≤ (65536 : Int)))))) : (((0 : Int) ≤ x0) ∧ ((x0 ≤ (65536 : Int)) ∧ ((x1 ≤ (65536 : Int)) ∧ ((0 : Int) ≤ x1)))) := by omega
theorem q_1401 : (((-(1 : Int)) = (-(1 : Int))) ∨ (((2 : Int) ≤ (-(1 : Int))) ∧ ((-(1 : Int)) ≤ (255 : Int)))) := by omega
theorem q_1402 {x0 x1 x2 x3 : Int} {p0 : Prop} (h0 : ((0 : Int) ≤ x0)) (h1 : (((0 : Int) ≤ x1) ∧ ((x1 ≤ (65536 : Int)) ∧ (((0 : Int) ≤ x2) ∧ (x2 ≤ (65536 : Int)))))) (h2 : ((x0 = (-(1 : Int))) ∨ ((x1 ≤ x0) ∧ ((x0 ≤ x2) ∧ (((5 : Int) ≤ x3) ∧ (x3 ≤ (6 : Int))))))) (h3 : ((x0 ≠ (-(1 : Int))) → p0)) : (((0 : Int) ≤ x0) ∧ ((x0 ≤ (65536 : Int)) ∧ (((0 : Int) ≤ x2) ∧ (x2 ≤ (65536 : Int))))) := by omega
theorem q_1403 : (((12 : Int) * (5 : Int)) ≤ (64 : Int)) := by omega
theorem q_1404 : (((0 : Int) ≤ (0 : Int)) ∧ (((1 : Int) ≤ (12 : Int)) ∧ (((12 : Int) ≤ (64 : Int)) ∧ (((0 : Int) + (12 : Int)) ≤ (256 : Int))))) := by omega
theorem q_1405 {x0 x1 x2 : Int} (h0 : (((2 : Int) * x0) ≤ x1)) (h1 : (x2 = (x1 - x0))) : (x0 ≤ x2) := by omega
theorem q_1406 {x0 x1 x2 x3 : Int} (h0 : (((2 : Int) * x0) ≤ x1)) (h1 : (x2 = (x1 - x0))) (h2 : (x3 = (x2 - x0))) : ((0 : Int) ≤ x3) := by omega
theorem q_1407 : (((0 : Int) ≤ (0 : Int)) ∧ ((0 : Int) ≤ (255 : Int))) := by omega
theorem q_1408 {x0 : Int} (h0 : (((-(1 : Int)) ≤ x0) ∧ (x0 ≤ (11 : Int)))) : (((-(1 : Int)) ≤ x0) ∧ (x0 ≤ (15 : Int))) := by omega
theorem q_1409 {x0 : Int} (h0 : (x0 < (255 : Int))) (h1 : (((0 : Int) ≤ x0) ∧ (x0 ≤ (255 : Int)))) : (((0 : Int) ≤ x0) ∧ (x0 < ((256 : Nat) : Int))) := by omega
theorem q_1410 {x0 : Int} (h0 : (((-(100 : Int)) ≤ x0) ∧ (x0 ≤ (524288 : Int)))) : (inr x0) := by omega
theorem q_1411 {x0 : Int} (h0 : (((0 : Int) ≤ x0) ∧ (x0 ≤ (6 : Int)))) : (((0 : Int) ≤ x0) ∧ (x0 ≤ (31 : Int))) := by omega
theorem q_1412 {x0 x1 x2 : Int} (h0 : (x0 ≤ x1)) (h1 : (x2 = (x1 - x0))) : ((0 : Int) ≤ x2) := by omega
theorem q_1413 {x0 x1 x2 x3 : Int} (h0 : (((0 : Int) ≤ x0) ∧ ((x0 + x1) ≤ (524288 : Int)))) (h1 : (x2 = (x1 - x3))) (h2 : (((0 : Int) ≤ x3) ∧ (x3 ≤ (6 : Int)))) : (((0 : Int) ≤ x0) ∧ ((x0 + x2) ≤ (524288 : Int))) := by omega
theorem q_1414 {x0 : Int} (h0 : (x0 < (255 : Int))) (h1 : (((0 : Int) ≤ x0) ∧ (x0 ≤ (255 : Int)))) : (((0 : Int) ≤ (x0 + (1 : Int))) ∧ ((x0 + (1 : Int)) ≤ (255 : Int))) := by omega
theorem q_1415 {x0 : Int} (h0 : (x0 < (255 : Int))) (h1 : (((0 : Int) ≤ x0) ∧ (x0 ≤ (255 : Int)))) : (inr (x0 + (1 : Int))) := by omega
theorem q_1416 {x0 : Int} : (((255 : Int) - (x0 + (1 : Int))) < ((255 : Int) - x0)) := by omega
theorem q_1417 {x0 : Int} (h0 : (x0 < (255 : Int))) : ((0 : Int) < ((255 : Int) - x0)) := by omega
theorem q_1418 {x0 x1 x2 x3 : Int} (h0 : (x0 = (0 : Int))) : (((x0 = (0 : Int)) ∧ ((x1 + x2) = (x1 + x2))) ∨ ((x0 ≠ (0 : Int)) ∧ ((x1 + x2) = x3))) := by omega
theorem q_1419 {x0 x1 x2 x3 : Int} (h0 : (x0 ≠ (0 : Int))) : (((x0 = (0 : Int)) ∧ (x1 = (x2 + x3))) ∨ ((x0 ≠ (0 : Int)) ∧ (x1 = x1))) := by omega
theorem q_1420 {x0 x1 x2 x3 : Int} (h0 : (x0 = (0 : Int))) : (((x0 = (0 : Int)) ∧ (x1 = x1)) ∨ ((x0 ≠ (0 : Int)) ∧ (x1 = (x2 + x3)))) := by omega
theorem q_1421 {x0 x1 x2 x3 : Int} (h0 : (x0 ≠ (0 : Int))) : (((x0 = (0 : Int)) ∧ ((x1 + x2) = x3)) ∨ ((x0 ≠ (0 : Int)) ∧ ((x1 + x2) = (x1 + x2)))) := by omega
theorem q_1422 {x0 : Int} (h0 : (x0 < (255 : Int))) (h1 : (((0 : Int) ≤ x0) ∧ (x0 ≤ (255 : Int)))) : (((0 : Int) ≤ (x0 + (1 : Int))) ∧ ((x0 + (1 : Int)) < ((256 : Nat) : Int))) := by omega
theorem q_1423 {x0 : Int} (h0 : (x0 < (255 : Int))) (h1 : (((0 : Int) ≤ x0) ∧ (x0 ≤ (255 : Int)))) : (inr ((x0 + (1 : Int)) + (1 : Int))) := by omega
theorem q_1424 {x0 x1 x2 : Int} (h0 : (x0 = (0 : Int))) : (((x0 = (0 : Int)) ∧ (x1 = x1)) ∨ ((x0 ≠ (0 : Int)) ∧ (x1 = x2))) := by omega
theorem q_1425 {x0 x1 x2 : Int} (h0 : (x0 ≠ (0 : Int))) : (((x0 = (0 : Int)) ∧ (x1 = x2)) ∨ ((x0 ≠ (0 : Int)) ∧ (x1 = x1))) := by omega
theorem q_1426 {x0 x1 x2 x3 x4 : Int} (h0 : (x0 ≠ (0 : Int))) (h1 : ((x0 = (0 : Int)) ∨ (x0 = (1 : Int)))) (h2 : ((x0 = (1 : Int)) → ((x1 < x2) ∧ ((x3 = ((8 : Int) * x1)) ∧ (((0 : Int) ≤ x4) ∧ (x4 ≤ (((8 : Int) * (x2 - x1)) - (1 : Int)))))))) : (x3 = ((8 : Int) * x1)) := by omega
theorem q_1427 {x0 x1 x2 x3 x4 : Int} (h0 : (x0 ≠ (0 : Int))) (h1 : (((0 : Int) ≤ x1) ∧ ((x1 ≤ (65536 : Int)) ∧ (((0 : Int) ≤ x2) ∧ (x2 ≤ (65536 : Int)))))) (h2 : ((x0 = (0 : Int)) ∨ (x0 = (1 : Int)))) (h3 : ((x0 = (1 : Int)) → ((x1 < x2) ∧ ((x3 = ((8 : Int) * x1)) ∧ (((0 : Int) ≤ x4) ∧ (x4 ≤ (((8 : Int) * (x2 - x1)) - (1 : Int)))))))) (h4 : (((0 : Int) ≤ x3) ∧ (x3 ≤ (524288 : Int)))) (h5 : (((-(100 : Int)) ≤ x4) ∧ (x4 ≤ (524288 : Int)))) : (((0 : Int) ≤ x3) ∧ ((x3 + x4) ≤ (524288 : Int))) := by omega
theorem q_1428 {x0 x1 x2 x3 x4 : Int} (h0 : (x0 ≠ (0 : Int))) (h1 : ((x0 = (0 : Int)) ∨ (x0 = (1 : Int)))) (h2 : ((x0 = (1 : Int)) → ((x1 < x2) ∧ ((x3 = ((8 : Int) * x1)) ∧ (((0 : Int) ≤ x4) ∧ (x4 ≤ (((8 : Int) * (x2 - x1)) - (1 : Int)))))))) : ((0 : Int) ≤ x4) := by omega
theorem q_1429 {x0 x1 x2 : Int} : (((0 : Int) = (0 : Int)) ∨ (x0 = (x1 + x2))) := by omega
theorem q_1430 {x0 x1 x2 x3 : Int} (h0 : (((0 : Int) ≤ x0) ∧ ((x1 + x0) ≤ (131072 : Int)))) (h1 : ((0 : Int) ≤ x2)) (h2 : ((x2 ≤ (0 : Int)) ∨ (x2 ≤ x0))) (h3 : (x3 = (x1 + x2))) : ((x1 ≤ x3) ∧ (x3 ≤ (x1 + x0))) := by omega
theorem q_1431 {x0 : Int} (h0 : (((0 : Int) ≤ x0) ∧ (x0 ≤ (11 : Int)))) : ((1 : Int) ≤ (x0 + (1 : Int))) := by omega
theorem q_1432 {x0 x1 : Int} (h0 : (x0 < x1)) (h1 : (x1 ≤ (x0 + (1 : Int)))) : ((x1 - (1 : Int)) = x0) := by omega
theorem q_1433 {x0 : Int} (h0 : (((0 : Int) ≤ x0) ∧ (x0 ≤ (255 : Int)))) : (((0 : Int) ≤ x0) ∧ (x0 < ((256 : Nat) : Int))) := by omega
theorem q_1434 {x0 x1 : Int} (h0 : ((0 : Int) ≤ x0)) (h1 : (((0 : Int) ≤ x1) ∧ (x1 ≤ (11 : Int)))) (h2 : (((-(100 : Int)) ≤ x0) ∧ (x0 ≤ (524288 : Int)))) : (((-(100 : Int)) ≤ (x0 - x1)) ∧ ((x0 - x1) ≤ (524288 : Int))) := by omega
theorem q_1435 {x0 x1 : Int} (h0 : (((0 : Int) ≤ x0) ∧ (x0 ≤ (11 : Int)))) (h1 : (((-(100 : Int)) ≤ x1) ∧ (x1 ≤ (524288 : Int)))) : (inr (x1 - x0)) := by omega
theorem q_1436 {x0 x1 x2 x3 : Int} (h0 : (x0 < x1)) (h1 : (((0 : Int) ≤ x1) ∧ ((x2 + x1) ≤ (131072 : Int)))) (h2 : (x3 = (x2 + x0))) (h3 : (((0 : Int) ≤ x3) ∧ (x3 ≤ (131072 : Int)))) : (((0 : Int) ≤ x3) ∧ (x3 < ((131072 : Nat) : Int))) := by omega
theorem q_1437 {x0 x1 x2 x3 : Int} (h0 : (x0 < x1)) (h1 : (((0 : Int) ≤ x1) ∧ ((x2 + x1) ≤ (131072 : Int)))) (h2 : (x3 = (x2 + x0))) (h3 : (((0 : Int) ≤ x3) ∧ (x3 ≤ (131072 : Int)))) : (((0 : Int) ≤ (x3 + (1 : Int))) ∧ ((x3 + (1 : Int)) ≤ (131072 : Int))) := by omega
theorem q_1438 {x0 x1 x2 : Int} (h0 : (((0 : Int) ≤ x0) ∧ ((x0 + x1) ≤ (524288 : Int)))) (h1 : (((0 : Int) ≤ x2) ∧ (x2 ≤ (11 : Int)))) : (((0 : Int) ≤ x0) ∧ ((x0 + (x1 - x2)) ≤ (524288 : Int))) := by omega
theorem q_1439 {x0 x1 x2 : Int} (h0 : ((0 : Int) ≤ x0)) (h1 : (x1 = (x2 + x0))) (h2 : (((0 : Int) ≤ x1) ∧ (x1 ≤ (131072 : Int)))) (h3 : (((0 : Int) ≤ x2) ∧ (x2 ≤ (131072 : Int)))) : (inr (x0 + (1 : Int))) := by omega
theorem q_1440 {x0 x1 x2 x3 : Int} (h0 : (x0 < x1)) (h1 : ((0 : Int) ≤ x0)) (h2 : (x2 = (x3 + x0))) : ((x3 ≤ x2) ∧ (x2 ≤ (x3 + x1))) := by omega
theorem q_1441 {x0 x1 : Int} (h0 : ((0 : Int) ≤ x0)) (h1 : (inr x1)) (h2 : ((1 : Int) ≤ x1)) (h3 : (((-(100 : Int)) ≤ x0) ∧ (x0 ≤ (524288 : Int)))) : (inr (x0 - x1)) := by omega
theorem q_1442 {x0 : Int} : (((2 : Int) * x0) = ((2 : Int) * x0)) := by omega
theorem q_1443 {x0 x1 x2 : Int} (h0 : ((0 : Int) ≤ (x0 - x1))) (h1 : (((0 : Int) ≤ x2) ∧ ((x2 + x0) ≤ (524288 : Int)))) (h2 : ((1 : Int) ≤ x1)) : (((0 : Int) ≤ ((x2 + x0) - x1)) ∧ (((x2 + x0) - x1) < (524288 : Int))) := by omega
theorem q_1444 {x0 x1 x2 : Int} (h0 : ((0 : Int) ≤ (x0 - x1))) (h1 : (((0 : Int) ≤ x2) ∧ ((x2 + x0) ≤ (524288 : Int)))) (h2 : ((1 : Int) ≤ x1)) : (inr ((x2 + x0) - x1)) := by omega
theorem q_1445 {x0 x1 : Int} : (((0 : Int) = (0 : Int)) ∨ (x0 = (x0 + x1))) := by omega
theorem q_1446 {x0 x1 : Int} (h0 : (((0 : Int) ≤ x0) ∧ ((x1 + x0) ≤ (131072 : Int)))) : ((x1 ≤ x1) ∧ (x1 ≤ (x1 + x0))) := by omega
theorem q_1447 {x0 x1 : Int} (h0 : (x0 < x1)) (h1 : (((0 : Int) ≤ x0) ∧ ((x0 ≤ (65536 : Int)) ∧ (((0 : Int) ≤ x1) ∧ (x1 ≤ (65536 : Int)))))) : (((0 : Int) ≤ x0) ∧ (x0 < ((65536 : Nat) : Int))) := by omega
theorem q_1448 {x0 : Int} : (((127 : Int) < x0) ∨ (x0 ≤ (127 : Int))) := by omega
theorem q_1449 {x0 x1 x2 x3 : Int} (h0 : (((0 : Int) ≤ x0) ∧ ((x0 ≤ (65536 : Int)) ∧ (((0 : Int) ≤ x1) ∧ (x1 ≤ (65536 : Int)))))) (h1 : (inr x2)) (h2 : (((x3 ≤ (127 : Int)) ∧ (x2 = x3)) ∨ ((x3 > (127 : Int)) ∧ (x2 = (((x3 - (127 : Int)) + (1 : Int)) / (2 : Int)))))) (h3 : (((0 : Int) ≤ x3) ∧ (x3 ≤ (255 : Int)))) : (inr ((x0 + (1 : Int)) + x2)) := by omega
theorem q_1450 : (((0 : Int) ≤ (0 : Int)) ∧ ((0 : Int) ≤ ((16384 : Int) * (0 : Int)))) := by omega
theorem q_1451 {x0 x1 : Int} (h0 : (((0 : Int) ≤ x0) ∧ (x0 ≤ ((16384 : Int) * x1)))) : ((0 : Int) ≤ x0) := by omega
theorem q_1452 {x0 : Int} (h0 : (x0 < (23 : Int))) (h1 : (((-(1 : Int)) ≤ x0) ∧ (x0 ≤ (30 : Int)))) : (((0 : Int) ≤ (x0 + (1 : Int))) ∧ ((x0 + (1 : Int)) ≤ (31 : Int))) := by omega
theorem q_1453 {x0 : Int} (h0 : (x0 < (23 : Int))) (h1 : (((-(1 : Int)) ≤ x0) ∧ (x0 ≤ (30 : Int)))) : (inr (x0 + (1 : Int))) := by omega
theorem q_1454 {x0 x1 : Int} : (((-(1 : Int)) = (-(1 : Int))) ∨ ((x0 < (-(1 : Int))) ∧ ((-(1 : Int)) ≤ x1))) := by omega
theorem q_1455 {x0 x1 : Int} (h0 : ((0 : Int) ≤ x0)) (h1 : (x0 ≤ x1)) (h2 : ((x1 ≤ (0 : Int)) ∨ (x1 ≤ x0))) (h3 : ((x0 = (-(1 : Int))) ∨ (((1 : Int) ≤ x0) ∧ (x0 ≤ (255 : Int))))) : (((0 : Int) ≤ x0) ∧ (x0 < ((256 : Nat) : Int))) := by omega
theorem q_1456 {x0 : Int} (h0 : ((x0 + (1 : Int)) ≤ (11 : Int))) (h1 : (((-(1 : Int)) ≤ x0) ∧ (x0 ≤ (30 : Int)))) : (((0 : Int) ≤ (x0 + (1 : Int))) ∧ ((x0 + (1 : Int)) ≤ (11 : Int))) := by omega
theorem q_1457 {x0 x1 x2 : Int} (h0 : (((x0 + (1 : Int)) + x1) ≤ x2)) (h1 : (((0 : Int) ≤ x0) ∧ ((x0 ≤ (65536 : Int)) ∧ (((0 : Int) ≤ x2) ∧ (x2 ≤ (65536 : Int)))))) (h2 : (inr x1)) : (inr ((x0 + (1 : Int)) + x1)) := by omega
theorem q_1458 : (((0 : Int) ≤ (0 : Int)) ∧ ((0 : Int) ≤ (11 : Int))) := by omega
theorem q_1459 {x0 : Int} (h0 : (((-(1 : Int)) ≤ x0) ∧ (x0 ≤ (15 : Int)))) : (inr x0) := by omega
theorem q_1460 {x0 x1 : Int} (h0 : (x0 < x1)) (h1 : ((0 : Int) ≤ x0)) (h2 : ((x0 ≤ (0 : Int)) ∨ (x0 ≤ x1))) (h3 : ((x1 = (-(1 : Int))) ∨ (((1 : Int) ≤ x1) ∧ (x1 ≤ (255 : Int))))) : (((0 : Int) ≤ x0) ∧ (x0 < ((256 : Nat) : Int))) := by omega
theorem q_1461 {x0 x1 : Int} (h0 : (((0 : Int) ≤ x0) ∧ (x0 ≤ x1))) : (((0 : Int) ≤ (x0 + (0 : Int))) ∧ ((x0 + (0 : Int)) ≤ (x1 + (1 : Int)))) := by omega
theorem q_1462 {x0 x1 : Int} (h0 : (((0 : Int) ≤ x0) ∧ (x0 ≤ ((16384 : Int) * x1)))) : ((0 : Int) ≤ (x1 + (1 : Int))) := by omega
theorem q_1463 {x0 x1 x2 : Int} (h0 : (x0 < x1)) (h1 : (((0 : Int) ≤ x2) ∧ (x2 ≤ ((16384 : Int) * x0)))) (h2 : (inr x1)) : (inr (x0 + (1 : Int))) := by omega
theorem q_1464 {x0 x1 : Int} (h0 : (inr x0)) (h1 : (((0 : Int) ≤ x0) ∧ (x0 ≤ x1))) : (inr (x0 + (0 : Int))) := by omega
theorem q_1465 {x0 x1 : Int} (h0 : (((0 : Int) ≤ x0) ∧ (x0 ≤ x1))) : (((0 : Int) ≤ (x0 + (1 : Int))) ∧ ((x0 + (1 : Int)) ≤ (x1 + (1 : Int)))) := by omega
theorem q_1466 {x0 x1 x2 : Int} (h0 : (x0 ≤ (0 : Int))) : (((x0 ≤ (0 : Int)) ∧ ((0 : Int) = (0 : Int))) ∨ ((x0 > (0 : Int)) ∧ (((-(1 : Int)) ≤ x1) ∧ ((x1 ≤ (15 : Int)) ∧ ((0 : Int) = x2))))) := by omega
theorem q_1467 {x0 x1 x2 : Int} (h0 : ((0 : Int) < x0)) (h1 : (x1 = x0)) (h2 : (x1 = x2)) (h3 : (((-(1 : Int)) ≤ x2) ∧ (x2 ≤ (15 : Int)))) : (((0 : Int) ≤ (x2 - (1 : Int))) ∧ ((x2 - (1 : Int)) ≤ (31 : Int))) := by omega
theorem q_1468 {x0 x1 x2 x3 x4 : Int} (h0 : ((0 : Int) < x0)) (h1 : (x1 = x2)) (h2 : (x3 = x4)) (h3 : (((-(1 : Int)) ≤ x2) ∧ (x2 ≤ (15 : Int)))) : (((x0 ≤ (0 : Int)) ∧ (x3 = (0 : Int))) ∨ ((x0 > (0 : Int)) ∧ (((-(1 : Int)) ≤ x1) ∧ ((x1 ≤ (15 : Int)) ∧ (x3 = x4))))) := by omega
theorem q_1469 {x0 x1 x2 x3 : Int} (h0 : (x0 < x1)) (h1 : (((x0 + (1 : Int)) + x2) ≤ x1)) (h2 : (((0 : Int) ≤ x0) ∧ ((x0 ≤ (65536 : Int)) ∧ (((0 : Int) ≤ x1) ∧ (x1 ≤ (65536 : Int)))))) (h3 : (((x3 ≤ (127 : Int)) ∧ (x2 = x3)) ∨ ((x3 > (127 : Int)) ∧ (x2 = (((x3 - (127 : Int)) + (1 : Int)) / (2 : Int)))))) (h4 : (((0 : Int) ≤ x3) ∧ (x3 ≤ (255 : Int)))) : (((0 : Int) ≤ (x0 + (1 : Int))) ∧ (((x0 + (1 : Int)) ≤ (65536 : Int)) ∧ (((0 : Int) ≤ ((x0 + (1 : Int)) + x2)) ∧ (((x0 + (1 : Int)) + x2) ≤ (65536 : Int))))) := by omega
theorem q_1470 {x0 x1 : Int} (h0 : (((0 : Int) ≤ x0) ∧ ((x0 ≤ (65536 : Int)) ∧ (((0 : Int) ≤ x1) ∧ (x1 ≤ (65536 : Int)))))) : (inr (x0 + (1 : Int))) := by omega
theorem q_1471 {x0 : Int} : (((0 : Int) ≤ (0 : Int)) ∨ ((0 : Int) ≤ (x0 - (127 : Int)))) := by omega
theorem q_1472 {x0 : Int} (h0 : ((127 : Int) < x0)) (h1 : (((0 : Int) ≤ x0) ∧ (x0 ≤ (255 : Int)))) : (inr (x0 - (127 : Int))) := by omega
theorem q_1473 {x0 : Int} (h0 : ((127 : Int) < x0)) (h1 : (((0 : Int) ≤ x0) ∧ (x0 ≤ (255 : Int)))) : (((x0 - (127 : Int)) = (-(1 : Int))) ∨ (((1 : Int) ≤ (x0 - (127 : Int))) ∧ ((x0 - (127 : Int)) ≤ (255 : Int)))) := by omega
theorem q_1474 {x0 : Int} : (inr (x0 % (2 : Int))) := by omega
theorem q_1475 {x0 : Int} (h0 : (((0 : Int) ≤ x0) ∧ (x0 ≤ (15 : Int)))) : (((-(1 : Int)) ≤ x0) ∧ (x0 ≤ (15 : Int))) := by omega
theorem q_1476 {x0 x1 : Int} (h0 : (x0 < (x1 - (127 : Int)))) (h1 : ((0 : Int) ≤ x0)) (h2 : (((0 : Int) ≤ x1) ∧ (x1 ≤ (255 : Int)))) : (((0 : Int) ≤ x0) ∧ (x0 < ((256 : Nat) : Int))) := by omega
theorem q_1477 {x0 x1 : Int} (h0 : (x0 < (x1 - (127 : Int)))) : (((x0 + (1 : Int)) ≤ (0 : Int)) ∨ ((x0 + (1 : Int)) ≤ (x1 - (127 : Int)))) := by omega
theorem q_1478 {x0 x1 : Int} (h0 : (x0 < (x1 - (127 : Int)))) (h1 : ((0 : Int) ≤ x0)) (h2 : (((0 : Int) ≤ x1) ∧ (x1 ≤ (255 : Int)))) : (inr (x0 + (1 : Int))) := by omega
theorem q_1479 {x0 x1 : Int} : (((x0 - (127 : Int)) - (x1 + (1 : Int))) < ((x0 - (127 : Int)) - x1)) := by omega
theorem q_1480 {x0 x1 : Int} (h0 : (x0 < (x1 - (127 : Int)))) : ((0 : Int) < ((x1 - (127 : Int)) - x0)) := by omega
theorem q_1481 {x0 : Int} (h0 : (x0 ≤ (127 : Int))) : (((x0 ≤ (127 : Int)) ∧ (x0 = x0)) ∨ ((x0 > (127 : Int)) ∧ (x0 = (((x0 - (127 : Int)) + (1 : Int)) / (2 : Int))))) := by omega
theorem q_1482 {x0 : Int} (h0 : (x0 ≤ (127 : Int))) (h1 : (((0 : Int) ≤ x0) ∧ (x0 ≤ (255 : Int)))) : (inr x0) := by omega
theorem q_1483 {x0 : Int} (h0 : ((127 : Int) < x0)) (h1 : (((0 : Int) ≤ x0) ∧ (x0 ≤ (255 : Int)))) : ((inr ((x0 - (127 : Int)) + (1 : Int))) ∧ ((0 : Int) ≤ ((x0 - (127 : Int)) + (1 : Int)))) := by omega
theorem q_1484 {x0 : Int} (h0 : ((127 : Int) < x0)) : (((x0 ≤ (127 : Int)) ∧ ((((x0 - (127 : Int)) + (1 : Int)) / (2 : Int)) = x0)) ∨ ((x0 > (127 : Int)) ∧ ((((x0 - (127 : Int)) + (1 : Int)) / (2 : Int)) = (((x0 - (127 : Int)) + (1 : Int)) / (2 : Int))))) := by omega
theorem q_1485 {x0 : Int} (h0 : ((127 : Int) < x0)) (h1 : (((0 : Int) ≤ x0) ∧ (x0 ≤ (255 : Int)))) : (inr (((x0 - (127 : Int)) + (1 : Int)) / (2 : Int))) := by omega
theorem q_1486 : (((0 : Int) ≤ (52 : Int)) ∧ ((52 : Int) ≤ (52 : Int))) := by omega
theorem q_1487 : (inr (52 : Int)) := by omega
theorem q_1488 : (((0 : Int) ≤ (31 : Int)) ∧ ((31 : Int) ≤ (52 : Int))) := by omega
theorem q_1489 : (((0 : Int) ≤ (35 : Int)) ∧ ((35 : Int) ≤ (52 : Int))) := by omega
theorem q_1490 : (inr (35 : Int)) := by omega
theorem q_1491 {x0 x1 : Int} (h0 : (((0 : Int) ≤ x0) ∧ (x0 ≤ (65536 : Int)))) (h1 : (((0 : Int) ≤ x1) ∧ (x1 ≤ (65536 : Int)))) : (inr (x0 - x1)) := by omega
theorem q_1492 {x0 x1 x2 x3 x4 : Int} : (((1 : Int) = (1 : Int)) ∨ ((x0 < (x1 + x2)) ∧ ((x3 = (1 : Int)) ∧ (x4 = x0)))) := by omega
theorem q_1493 {x0 x1 x2 : Int} (h0 : (x0 ≤ (x1 - x2))) : (((1 : Int) = (1 : Int)) → ((x2 + x0) ≤ x1)) := by omega
theorem q_1494 : (((0 : Int) ≤ (1 : Int)) ∧ ((1 : Int) ≤ (20 : Int))) := by omega
theorem q_1495 {x0 x1 x2 x3 x4 : Int} (h0 : ((x0 - x1) < x2)) (h1 : (x3 = (1 : Int))) (h2 : (x4 = x0)) : (((0 : Int) = (1 : Int)) ∨ ((x0 < (x1 + x2)) ∧ ((x3 = (1 : Int)) ∧ (x4 = x0)))) := by omega
theorem q_1496 {x0 x1 x2 : Int} (h0 : (((0 : Int) ≤ x0) ∧ (x0 ≤ (1000000 : Int)))) (h1 : (((0 : Int) ≤ x1) ∧ (x1 ≤ (65536 : Int)))) (h2 : (((0 : Int) ≤ x2) ∧ (x2 ≤ (65536 : Int)))) : (((0 : Int) = (1 : Int)) → ((x2 + x0) ≤ x1)) := by omega
theorem q_1497 : (((-(2147483648 : Int)) ≤ (2147483647 : Int)) ∧ ((2147483647 : Int) ≤ (2147483647 : Int))) := by omega
theorem q_1498 : (inrJ (2147483647 : Int)) := by omega
theorem q_1499 {x0 x1 x2 : Int} (h0 : ((0 : Int) ≤ x0)) (h1 : (((0 : Int) ≤ x1) ∧ (((0 : Int) ≤ x2) ∧ ((x2 ≤ (8 : Int)) ∧ ((x1 + x2) ≤ (65536 : Int)))))) (h2 : (x0 ≤ (x2 - (1 : Int)))) : (((0 : Int) ≤ (x1 + x0)) ∧ ((x1 + x0) < (65536 : Int))) := by omega
theorem q_1500 {x0 x1 x2 : Int} (h0 : ((0 : Int) ≤ x0)) (h1 : (((0 : Int) ≤ x1) ∧ (((0 : Int) ≤ x2) ∧ ((x2 ≤ (8 : Int)) ∧ ((x1 + x2) ≤ (65536 : Int)))))) (h2 : (x0 ≤ (x2 - (1 : Int)))) : (inr (x1 + x0)) := by omega
theorem q_1501 {x0 x1 x2 : Int} (h0 : ((x0 - x1) < (8 : Int))) (h1 : ((x2 ≤ x1) ∧ (x1 ≤ x0))) : (inr (x0 - x1)) := by omega
theorem q_1502 {x0 x1 x2 : Int} (h0 : (x0 < x1)) (h1 : (((0 : Int) ≤ x2) ∧ ((x2 ≤ x1) ∧ (x1 ≤ (65536 : Int))))) (h2 : ((x2 ≤ x0) ∧ (x0 ≤ x1))) : (((0 : Int) ≤ x0) ∧ (x0 < (65536 : Int))) := by omega
theorem q_1503 {x0 x1 x2 : Int} (h0 : (x0 < x1)) (h1 : ((x2 ≤ x0) ∧ (x0 ≤ x1))) : ((x2 ≤ (x0 + (1 : Int))) ∧ ((x0 + (1 : Int)) ≤ x1)) := by omega
theorem q_1504 {x0 x1 : Int} : ((x0 - (x1 + (8 : Int))) < (x0 - x1)) := by omega
theorem q_1505 {x0 x1 : Int} (h0 : ((8 : Int) ≤ (x0 - x1))) : ((0 : Int) < (x0 - x1)) := by omega
theorem q_1506 : (inrJ (2870177450012600261 : Int)) := by omega
theorem q_1507 : (((-(9223372036854775808 : Int)) ≤ (-(4417276706812531889 : Int))) ∧ ((-(4417276706812531889 : Int)) ≤ (9223372036854775807 : Int))) := by omega
theorem q_1508 : (((-(9223372036854775808 : Int)) ≤ (-(-(7046029288634856825 : Int)))) ∧ ((-(-(7046029288634856825 : Int))) ≤ (9223372036854775807 : Int))) := by omega
theorem q_1509 {x0 x1 x2 : Int} (h0 : ((32 : Int) ≤ (x0 - x1))) (h1 : (((0 : Int) ≤ x2) ∧ ((x2 ≤ x0) ∧ (x0 ≤ (65536 : Int))))) (h2 : (inr x1)) : (inr (x1 + (32 : Int))) := by omega
theorem q_1510 {x0 x1 x2 x3 : Int} (h0 : (x0 < (4 : Int))) (h1 : ((32 : Int) ≤ (x1 - x2))) (h2 : (((0 : Int) ≤ x3) ∧ ((x3 ≤ x1) ∧ (x1 ≤ (65536 : Int))))) (h3 : ((x3 ≤ x2) ∧ (x2 ≤ x1))) (h4 : ((0 : Int) ≤ x0)) : (((0 : Int) ≤ (x2 + ((8 : Int) * x0))) ∧ (((0 : Int) ≤ (8 : Int)) ∧ (((8 : Int) ≤ (8 : Int)) ∧ (((x2 + ((8 : Int) * x0)) + (8 : Int)) ≤ (65536 : Int))))) := by omega
theorem q_1511 {x0 x1 x2 x3 : Int} (h0 : (x0 < (4 : Int))) (h1 : ((32 : Int) ≤ (x1 - x2))) (h2 : (((0 : Int) ≤ x3) ∧ ((x3 ≤ x1) ∧ (x1 ≤ (65536 : Int))))) (h3 : (inr x2)) (h4 : ((0 : Int) ≤ x0)) : (inr (x2 + ((8 : Int) * x0))) := by omega
theorem q_1512 : (inr (20 : Int)) := by omega
theorem q_1513 : (inr (22 : Int)) := by omega
theorem q_1514 : (inr (24 : Int)) := by omega
theorem q_1515 {x0 : Int} (h0 : ((24 : Int) ≤ x0)) (h1 : (((0 : Int) ≤ x0) ∧ (x0 ≤ (35 : Int)))) : (((0 : Int) ≤ (x0 - (19 : Int))) ∧ ((x0 - (19 : Int)) ≤ (31 : Int))) := by omega
theorem q_1516 : (((0 : Int) ≤ (48 : Int)) ∧ ((48 : Int) ≤ (65536 : Int))) := by omega
theorem q_1517 : (inr (48 : Int)) := by omega
theorem q_1518 {x0 : Int} (h0 : ((22 : Int) ≤ x0)) (h1 : (x0 < (24 : Int))) : (((0 : Int) ≤ ((32 : Int) + ((8 : Int) * (x0 - (22 : Int))))) ∧ (((32 : Int) + ((8 : Int) * (x0 - (22 : Int)))) ≤ (65536 : Int))) := by omega
theorem q_1519 {x0 : Int} (h0 : ((22 : Int) ≤ x0)) (h1 : (x0 < (24 : Int))) : (inr ((32 : Int) + ((8 : Int) * (x0 - (22 : Int))))) := by omega
theorem q_1520 {x0 : Int} (h0 : ((20 : Int) ≤ x0)) (h1 : (x0 < (22 : Int))) : (((0 : Int) ≤ ((24 : Int) + ((4 : Int) * (x0 - (20 : Int))))) ∧ (((24 : Int) + ((4 : Int) * (x0 - (20 : Int)))) ≤ (65536 : Int))) := by omega
theorem q_1521 {x0 : Int} (h0 : ((20 : Int) ≤ x0)) (h1 : (x0 < (22 : Int))) : (inr ((24 : Int) + ((4 : Int) * (x0 - (20 : Int))))) := by omega
theorem q_1522 {x0 : Int} (h0 : ((16 : Int) ≤ x0)) (h1 : (x0 < (20 : Int))) : (((0 : Int) ≤ ((16 : Int) + ((2 : Int) * (x0 - (16 : Int))))) ∧ (((16 : Int) + ((2 : Int) * (x0 - (16 : Int)))) ≤ (65536 : Int))) := by omega
theorem q_1523 {x0 : Int} (h0 : ((16 : Int) ≤ x0)) (h1 : (x0 < (20 : Int))) : (inr ((16 : Int) + ((2 : Int) * (x0 - (16 : Int))))) := by omega
theorem q_1524 {x0 : Int} (h0 : (x0 < (16 : Int))) (h1 : (((0 : Int) ≤ x0) ∧ (x0 ≤ (35 : Int)))) : (((0 : Int) ≤ x0) ∧ (x0 ≤ (65536 : Int))) := by omega
theorem q_1525 {x0 : Int} (h0 : ((24 : Int) ≤ x0)) (h1 : (((0 : Int) ≤ x0) ∧ (x0 ≤ (35 : Int)))) : (((0 : Int) ≤ (x0 - (19 : Int))) ∧ ((x0 - (19 : Int)) ≤ (16 : Int))) := by omega
theorem q_1526 {x0 : Int} (h0 : ((24 : Int) ≤ x0)) (h1 : (((0 : Int) ≤ x0) ∧ (x0 ≤ (35 : Int)))) : (inr (x0 - (19 : Int))) := by omega
theorem q_1527 : (((0 : Int) ≤ (3 : Int)) ∧ ((3 : Int) ≤ (16 : Int))) := by omega
theorem q_1528 : (((0 : Int) ≤ (0 : Int)) ∧ ((0 : Int) ≤ (16 : Int))) := by omega
theorem q_1529 : (inr (36 : Int)) := by omega
theorem q_1530 : (inr (38 : Int)) := by omega
theorem q_1531 : (inr (40 : Int)) := by omega
theorem q_1532 : (inr (42 : Int)) := by omega
theorem q_1533 {x0 : Int} (h0 : ((42 : Int) ≤ x0)) (h1 : (((0 : Int) ≤ x0) ∧ (x0 ≤ (52 : Int)))) : (((0 : Int) ≤ (x0 - (36 : Int))) ∧ ((x0 - (36 : Int)) ≤ (31 : Int))) := by omega
theorem q_1534 : (((3 : Int) ≤ (99 : Int)) ∧ ((99 : Int) ≤ (65539 : Int))) := by omega
theorem q_1535 : (inr (99 : Int)) := by omega
theorem q_1536 {x0 : Int} (h0 : ((40 : Int) ≤ x0)) (h1 : (x0 < (42 : Int))) : (((3 : Int) ≤ ((67 : Int) + ((16 : Int) * (x0 - (40 : Int))))) ∧ (((67 : Int) + ((16 : Int) * (x0 - (40 : Int)))) ≤ (65539 : Int))) := by omega
theorem q_1537 {x0 : Int} (h0 : ((40 : Int) ≤ x0)) (h1 : (x0 < (42 : Int))) : (inr ((67 : Int) + ((16 : Int) * (x0 - (40 : Int))))) := by omega
theorem q_1538 {x0 : Int} (h0 : ((38 : Int) ≤ x0)) (h1 : (x0 < (40 : Int))) : (((3 : Int) ≤ ((51 : Int) + ((8 : Int) * (x0 - (38 : Int))))) ∧ (((51 : Int) + ((8 : Int) * (x0 - (38 : Int)))) ≤ (65539 : Int))) := by omega
theorem q_1539 {x0 : Int} (h0 : ((38 : Int) ≤ x0)) (h1 : (x0 < (40 : Int))) : (inr ((51 : Int) + ((8 : Int) * (x0 - (38 : Int))))) := by omega
theorem q_1540 {x0 : Int} (h0 : ((36 : Int) ≤ x0)) (h1 : (x0 < (38 : Int))) : (((3 : Int) ≤ ((43 : Int) + ((4 : Int) * (x0 - (36 : Int))))) ∧ (((43 : Int) + ((4 : Int) * (x0 - (36 : Int)))) ≤ (65539 : Int))) := by omega
theorem q_1541 {x0 : Int} (h0 : ((36 : Int) ≤ x0)) (h1 : (x0 < (38 : Int))) : (inr ((43 : Int) + ((4 : Int) * (x0 - (36 : Int))))) := by omega
theorem q_1542 {x0 : Int} (h0 : ((32 : Int) ≤ x0)) (h1 : (x0 < (36 : Int))) : (((3 : Int) ≤ ((35 : Int) + ((2 : Int) * (x0 - (32 : Int))))) ∧ (((35 : Int) + ((2 : Int) * (x0 - (32 : Int)))) ≤ (65539 : Int))) := by omega
theorem q_1543 {x0 : Int} (h0 : ((32 : Int) ≤ x0)) (h1 : (x0 < (36 : Int))) : (inr ((35 : Int) + ((2 : Int) * (x0 - (32 : Int))))) := by omega
theorem q_1544 {x0 : Int} (h0 : (x0 < (32 : Int))) (h1 : (((0 : Int) ≤ x0) ∧ (x0 ≤ (52 : Int)))) : (((3 : Int) ≤ (x0 + (3 : Int))) ∧ ((x0 + (3 : Int)) ≤ (65539 : Int))) := by omega
theorem q_1545 {x0 : Int} (h0 : (x0 < (32 : Int))) (h1 : (((0 : Int) ≤ x0) ∧ (x0 ≤ (52 : Int)))) : (inr (x0 + (3 : Int))) := by omega
theorem q_1546 {x0 : Int} (h0 : ((42 : Int) ≤ x0)) (h1 : (((0 : Int) ≤ x0) ∧ (x0 ≤ (52 : Int)))) : (((0 : Int) ≤ (x0 - (36 : Int))) ∧ ((x0 - (36 : Int)) ≤ (16 : Int))) := by omega
theorem q_1547 {x0 : Int} (h0 : ((42 : Int) ≤ x0)) (h1 : (((0 : Int) ≤ x0) ∧ (x0 ≤ (52 : Int)))) : (inr (x0 - (36 : Int))) := by omega
theorem q_1548 : (((0 : Int) ≤ (5 : Int)) ∧ ((5 : Int) ≤ (16 : Int))) := by omega
theorem q_1549 {x0 x1 x2 : Int} : (((1 : Int) = (0 : Int)) → ((x0 ≠ (0 : Int)) ∧ (x0 ≤ (x1 + x2)))) := by omega
theorem q_1550 {x0 x1 : Int} : ((x0 = (x0 + (0 : Int))) ∧ (x1 = (x1 + (0 : Int)))) := by omega
theorem q_1551 {x0 x1 x2 x3 x4 x5 x6 x7 : Int} (h0 : (x0 ≤ x1)) (h1 : (((0 : Int) ≤ x0) ∧ (((0 : Int) ≤ x2) ∧ ((x3 + x0) ≤ x4)))) (h2 : ((x1 ≤ (0 : Int)) ∨ (x1 ≤ x0))) (h3 : ((x5 = (x6 + x1)) ∧ (x7 = (x3 + x1)))) : (x5 = ((x6 + x0) + (0 : Int))) := by omega
theorem q_1552 {x0 x1 x2 x3 x4 x5 x6 x7 : Int} (h0 : (x0 ≤ x1)) (h1 : (((0 : Int) ≤ x0) ∧ (((0 : Int) ≤ x2) ∧ ((x3 + x0) ≤ x4)))) (h2 : ((x1 ≤ (0 : Int)) ∨ (x1 ≤ x0))) (h3 : ((x5 = (x6 + x1)) ∧ (x7 = (x3 + x1)))) : (x7 = (x3 + x0)) := by omega
theorem q_1553 {x0 x1 x2 x3 x4 x5 x6 : Int} (h0 : (x0 ≤ x1)) (h1 : (((0 : Int) ≤ x2) ∧ (((0 : Int) ≤ x0) ∧ ((x3 + x2) ≤ x4)))) (h2 : ((x1 ≤ (0 : Int)) ∨ (x1 ≤ x0))) (h3 : (x5 = ((x6 + x2) + x1))) : (x5 = ((x6 + x2) + x0)) := by omega
theorem q_1554 {x0 x1 x2 x3 x4 x5 : Int} (h0 : (inr x0)) (h1 : (((1 : Int) ≤ x0) ∧ (x0 ≤ (((x1 + x2) - x3) + x4)))) (h2 : (((0 : Int) ≤ x5) ∧ (x5 ≤ (65536 : Int)))) : (inr (x5 - x0)) := by omega
theorem q_1555 {x0 x1 x2 x3 x4 x5 x6 : Int} (h0 : ((x0 - x1) < x2)) (h1 : (((1 : Int) ≤ x1) ∧ (x1 ≤ (((x3 + x4) - x2) + x5)))) (h2 : ((0 : Int) ≤ x6)) (h3 : (x0 = ((x3 + x4) + x6))) (h4 : (((0 : Int) ≤ x5) ∧ (x5 ≤ (65536 : Int)))) : (((0 : Int) ≤ ((x5 + (x0 - x1)) - x2)) ∧ (((x5 + (x0 - x1)) - x2) < ((65536 : Nat) : Int))) := by omega
theorem q_1556 {x0 x1 x2 x3 x4 : Int} (h0 : (x0 < x1)) (h1 : (((x2 + x3) + x1) ≤ (65536 : Int))) (h2 : (x4 = ((x2 + x3) + x0))) (h3 : (((0 : Int) ≤ x4) ∧ (x4 ≤ (65536 : Int)))) : (((0 : Int) ≤ x4) ∧ (x4 < ((65536 : Nat) : Int))) := by omega
theorem q_1557 {x0 x1 x2 x3 x4 : Int} (h0 : (x0 < x1)) (h1 : (((x2 + x3) + x1) ≤ (65536 : Int))) (h2 : (x4 = ((x2 + x3) + x0))) (h3 : (((0 : Int) ≤ x4) ∧ (x4 ≤ (65536 : Int)))) : (((0 : Int) ≤ (x4 + (1 : Int))) ∧ ((x4 + (1 : Int)) ≤ (65536 : Int))) := by omega
theorem q_1558 {x0 x1 x2 x3 : Int} (h0 : (x0 = ((x1 + x2) + x3))) : ((x0 + (1 : Int)) = ((x1 + x2) + (x3 + (1 : Int)))) := by omega
theorem q_1559 {x0 x1 x2 x3 x4 x5 x6 : Int} (h0 : (((0 : Int) ≤ x0) ∧ (((0 : Int) ≤ x1) ∧ ((x2 + x0) ≤ x3)))) (h1 : ((0 : Int) ≤ x4)) (h2 : (x5 = ((x6 + x0) + x4))) (h3 : (((0 : Int) ≤ x6) ∧ (x6 ≤ (65536 : Int)))) (h4 : (((0 : Int) ≤ x5) ∧ (x5 ≤ (65536 : Int)))) : (inr (x4 + (1 : Int))) := by omega
theorem q_1560 {x0 x1 x2 x3 x4 x5 : Int} (h0 : (x0 ≤ (x1 - x2))) (h1 : (((1 : Int) ≤ x2) ∧ (x2 ≤ (((x3 + x4) - x0) + x5)))) (h2 : (((0 : Int) ≤ x0) ∧ (x0 ≤ (65536 : Int)))) (h3 : (((0 : Int) ≤ x1) ∧ (x1 ≤ (65536 : Int)))) : (((0 : Int) ≤ (x1 - x2)) ∧ ((x1 - x2) < ((65536 : Nat) : Int))) := by omega
theorem q_1561 {x0 x1 x2 x3 x4 x5 x6 x7 : Int} (h0 : (x0 < x1)) (h1 : (((0 : Int) ≤ x1) ∧ (((0 : Int) ≤ x2) ∧ ((x3 + x1) ≤ x4)))) (h2 : ((x5 = (x6 + x0)) ∧ (x7 = (x3 + x0)))) (h3 : (((0 : Int) ≤ x4) ∧ (x4 ≤ (131072 : Int)))) (h4 : (((0 : Int) ≤ x7) ∧ (x7 ≤ (131072 : Int)))) : (((0 : Int) ≤ x7) ∧ (x7 < ((131072 : Nat) : Int))) := by omega
theorem q_1562 {x0 x1 x2 x3 x4 x5 x6 x7 : Int} (h0 : (x0 < x1)) (h1 : (((0 : Int) ≤ x1) ∧ (((0 : Int) ≤ x2) ∧ ((x3 + x1) ≤ x4)))) (h2 : (((x5 + x1) + x2) ≤ (65536 : Int))) (h3 : ((x6 = (x5 + x0)) ∧ (x7 = (x3 + x0)))) (h4 : (((0 : Int) ≤ x6) ∧ (x6 ≤ (65536 : Int)))) : (((0 : Int) ≤ x6) ∧ (x6 < ((65536 : Nat) : Int))) := by omega
theorem q_1563 {x0 x1 x2 x3 x4 x5 x6 x7 : Int} (h0 : (x0 < x1)) (h1 : (((0 : Int) ≤ x1) ∧ (((0 : Int) ≤ x2) ∧ ((x3 + x1) ≤ x4)))) (h2 : (((x5 + x1) + x2) ≤ (65536 : Int))) (h3 : ((x6 = (x5 + x0)) ∧ (x7 = (x3 + x0)))) (h4 : (((0 : Int) ≤ x6) ∧ (x6 ≤ (65536 : Int)))) : (((0 : Int) ≤ (x6 + (1 : Int))) ∧ ((x6 + (1 : Int)) ≤ (65536 : Int))) := by omega
theorem q_1564 {x0 x1 x2 x3 x4 x5 x6 x7 : Int} (h0 : (x0 < x1)) (h1 : (((0 : Int) ≤ x1) ∧ (((0 : Int) ≤ x2) ∧ ((x3 + x1) ≤ x4)))) (h2 : ((x5 = (x6 + x0)) ∧ (x7 = (x3 + x0)))) (h3 : (((0 : Int) ≤ x4) ∧ (x4 ≤ (131072 : Int)))) (h4 : (((0 : Int) ≤ x7) ∧ (x7 ≤ (131072 : Int)))) : (((0 : Int) ≤ (x7 + (1 : Int))) ∧ ((x7 + (1 : Int)) ≤ (131072 : Int))) := by omega
theorem q_1565 {x0 x1 x2 x3 x4 : Int} (h0 : ((x0 = (x1 + x2)) ∧ (x3 = (x4 + x2)))) : (((x0 + (1 : Int)) = (x1 + (x2 + (1 : Int)))) ∧ ((x3 + (1 : Int)) = (x4 + (x2 + (1 : Int))))) := by omega
theorem q_1566 {x0 x1 x2 x3 x4 : Int} (h0 : ((0 : Int) ≤ x0)) (h1 : ((x1 = (x2 + x0)) ∧ (x3 = (x4 + x0)))) (h2 : (((0 : Int) ≤ x4) ∧ (x4 ≤ (131072 : Int)))) (h3 : (((0 : Int) ≤ x3) ∧ (x3 ≤ (131072 : Int)))) : (inr (x0 + (1 : Int))) := by omega
theorem q_1567 {x0 x1 x2 : Int} (h0 : ((x0 ≤ x1) ∧ ((x2 + (x1 - x0)) ≤ (65536 : Int)))) : (x0 ≤ x1) := by omega
theorem q_1568 {x0 x1 : Int} : ((x0 - x1) = (x0 - x1)) := by omega
theorem q_1569 {x0 : Int} (h0 : (((0 : Int) ≤ x0) ∧ (x0 ≤ (131072 : Int)))) : (inr x0) := by omega
theorem q_1570 {x0 x1 x2 x3 x4 : Int} (h0 : (x0 ≤ x1)) (h1 : ((x2 - x1) = (x3 - x4))) (h2 : (x1 ≤ x0)) : (x2 = (x3 + (x0 - x4))) := by omega
theorem q_1571 {x0 x1 : Int} (h0 : (x0 < x1)) (h1 : (((0 : Int) ≤ x1) ∧ (x1 ≤ (131072 : Int)))) (h2 : (((0 : Int) ≤ x0) ∧ (x0 ≤ (131072 : Int)))) : (((0 : Int) ≤ x0) ∧ (x0 < ((131072 : Nat) : Int))) := by omega
theorem q_1572 {x0 x1 x2 x3 x4 : Int} (h0 : (x0 < x1)) (h1 : ((x2 ≤ x1) ∧ ((x3 + (x1 - x2)) ≤ (65536 : Int)))) (h2 : ((x4 - x0) = (x3 - x2))) (h3 : (((0 : Int) ≤ x4) ∧ (x4 ≤ (65536 : Int)))) : (((0 : Int) ≤ x4) ∧ (x4 < ((65536 : Nat) : Int))) := by omega
theorem q_1573 {x0 x1 x2 x3 x4 : Int} (h0 : (x0 < x1)) (h1 : ((x2 ≤ x1) ∧ ((x3 + (x1 - x2)) ≤ (65536 : Int)))) (h2 : ((x4 - x0) = (x3 - x2))) (h3 : (((0 : Int) ≤ x4) ∧ (x4 ≤ (65536 : Int)))) : (((0 : Int) ≤ (x4 + (1 : Int))) ∧ ((x4 + (1 : Int)) ≤ (65536 : Int))) := by omega
theorem q_1574 {x0 x1 : Int} (h0 : (x0 < x1)) (h1 : (((0 : Int) ≤ x1) ∧ (x1 ≤ (131072 : Int)))) (h2 : (((0 : Int) ≤ x0) ∧ (x0 ≤ (131072 : Int)))) : (((0 : Int) ≤ (x0 + (1 : Int))) ∧ ((x0 + (1 : Int)) ≤ (131072 : Int))) := by omega
theorem q_1575 {x0 x1 : Int} (h0 : (x0 < x1)) : ((x0 + (1 : Int)) ≤ x1) := by omega
theorem q_1576 {x0 x1 x2 x3 : Int} (h0 : ((x0 - x1) = (x2 - x3))) : (((x0 + (1 : Int)) - (x1 + (1 : Int))) = (x2 - x3)) := by omega
theorem q_1577 : (inrJ (3 : Int)) := by omega
theorem q_1578 : (inrJ (2 : Int)) := by omega
theorem q_1579 : (((0 : Int) ≤ (0 : Int)) ∧ ((0 : Int) < ((3 : Nat) : Int))) := by omega
theorem q_1580 : (((0 : Int) ≤ (1 : Int)) ∧ ((1 : Int) < ((3 : Nat) : Int))) := by omega
theorem q_1581 : (((0 : Int) ≤ (2 : Int)) ∧ ((2 : Int) < ((3 : Nat) : Int))) := by omega
theorem q_1582 {x0 x1 x2 x3 : Int} (h0 : (x0 = x1)) (h1 : (((1 : Int) ≤ x0) ∧ (((1 : Int) ≤ x2) ∧ ((1 : Int) ≤ x3)))) : ((0 : Int) ≤ (x1 - (1 : Int))) := by omega
theorem q_1583 {x0 x1 : Int} (h0 : ((0 : Int) < x0)) : ((x0 > (0 : Int)) ∨ ((x0 ≤ (0 : Int)) ∧ (x1 > (2 : Int)))) := by omega
theorem q_1584 {x0 x1 x2 x3 : Int} (h0 : (x0 = x1)) (h1 : (((1 : Int) ≤ x2) ∧ (((1 : Int) ≤ x3) ∧ ((1 : Int) ≤ x0)))) : ((0 : Int) ≤ x1) := by omega
theorem q_1585 {x0 x1 x2 x3 : Int} (h0 : (x0 = x1)) (h1 : (((1 : Int) ≤ x2) ∧ (((1 : Int) ≤ x0) ∧ ((1 : Int) ≤ x3)))) : ((0 : Int) ≤ x1) := by omega
theorem q_1586 {x0 x1 : Int} (h0 : ((0 : Int) < x0)) : ((x0 > (0 : Int)) ∨ ((x0 ≤ (0 : Int)) ∧ (x1 ≠ (1 : Int)))) := by omega
theorem q_1587 : (inrJ (1 : Int)) := by omega
theorem q_1588 {x0 x1 x2 x3 : Int} (h0 : (x0 = x1)) (h1 : (((1 : Int) ≤ x0) ∧ (((1 : Int) ≤ x2) ∧ ((1 : Int) ≤ x3)))) : ((0 : Int) ≤ x1) := by omega
theorem q_1589 {x0 x1 : Int} (h0 : ((0 : Int) < x0)) : ((x0 > (0 : Int)) ∨ ((x0 ≤ (0 : Int)) ∧ ((x1 + (1 : Int)) > (2 : Int)))) := by omega
theorem q_1590 {x0 x1 : Int} (h0 : ((0 : Int) < x0)) : ((x0 > (0 : Int)) ∨ ((x0 ≤ (0 : Int)) ∧ ((x1 + (1 : Int)) ≠ (1 : Int)))) := by omega
theorem q_1591 {x0 x1 : Int} (h0 : (x0 ≤ (0 : Int))) (h1 : (((1 : Int) ≤ x1) ∧ (x1 ≤ (10000000000 : Int)))) : ((x0 > (0 : Int)) ∨ ((x0 ≤ (0 : Int)) ∧ ((x1 + (1 : Int)) ≠ (1 : Int)))) := by omega
theorem q_1592 {x0 x1 : Int} (h0 : (((0 : Int) ≤ x0) ∧ ((x0 ≤ x1) ∧ (x1 ≤ (65536 : Int))))) (h1 : (((0 : Int) ≤ x0) ∧ (x0 ≤ (65536 : Int)))) : (inr (x1 - x0)) := by omega
theorem q_1593 {x0 x1 : Int} (h0 : ((6 : Int) ≤ (x0 - x1))) (h1 : (((0 : Int) ≤ x1) ∧ ((x1 ≤ x0) ∧ (x0 ≤ (65536 : Int))))) (h2 : (((0 : Int) ≤ x1) ∧ (x1 ≤ (65536 : Int)))) : (((0 : Int) ≤ x1) ∧ (((0 : Int) ≤ (2 : Int)) ∧ (((2 : Int) ≤ (8 : Int)) ∧ ((x1 + (2 : Int)) ≤ (65536 : Int))))) := by omega
theorem q_1594 {x0 x1 : Int} (h0 : ((6 : Int) ≤ (x0 - x1))) (h1 : (((0 : Int) ≤ x1) ∧ ((x1 ≤ x0) ∧ (x0 ≤ (65536 : Int))))) (h2 : (((0 : Int) ≤ x1) ∧ (x1 ≤ (65536 : Int)))) : (((0 : Int) ≤ (x1 + (2 : Int))) ∧ (((0 : Int) ≤ (2 : Int)) ∧ (((2 : Int) ≤ (8 : Int)) ∧ (((x1 + (2 : Int)) + (2 : Int)) ≤ (65536 : Int))))) := by omega
theorem q_1595 {x0 : Int} (h0 : (((0 : Int) ≤ x0) ∧ (x0 ≤ (65536 : Int)))) : (inr (x0 + (2 : Int))) := by omega
theorem q_1596 {x0 x1 : Int} (h0 : ((6 : Int) ≤ (x0 - x1))) (h1 : (((0 : Int) ≤ x1) ∧ ((x1 ≤ x0) ∧ (x0 ≤ (65536 : Int))))) (h2 : (((0 : Int) ≤ x1) ∧ (x1 ≤ (65536 : Int)))) : (((0 : Int) ≤ (x1 + (4 : Int))) ∧ (((0 : Int) ≤ (2 : Int)) ∧ (((2 : Int) ≤ (8 : Int)) ∧ (((x1 + (4 : Int)) + (2 : Int)) ≤ (65536 : Int))))) := by omega
theorem q_1597 {x0 : Int} (h0 : (((0 : Int) ≤ x0) ∧ (x0 ≤ (65536 : Int)))) : (inr (x0 + (4 : Int))) := by omega
theorem q_1598 {x0 x1 : Int} (h0 : ((6 : Int) ≤ (x0 - x1))) (h1 : (((0 : Int) ≤ x1) ∧ ((x1 ≤ x0) ∧ (x0 ≤ (65536 : Int))))) (h2 : (((0 : Int) ≤ x1) ∧ (x1 ≤ (65536 : Int)))) : (inr (x0 - (x1 + (6 : Int)))) := by omega
theorem q_1599 {x0 x1 : Int} (h0 : ((6 : Int) ≤ (x0 - x1))) (h1 : (((0 : Int) ≤ x1) ∧ ((x1 ≤ x0) ∧ (x0 ≤ (65536 : Int))))) (h2 : (((0 : Int) ≤ x1) ∧ (x1 ≤ (65536 : Int)))) : (inrJ (x0 - (x1 + (6 : Int)))) := by omega
theorem q_1600 {x0 x1 : Int} (h0 : (x0 = (0 : Int))) : ((x0 ≤ ((0 : Int) * x1)) ∨ ((0 : Int) = (4 : Int))) := by omega
theorem q_1601 {x0 x1 x2 : Int} (h0 : (((0 : Int) ≤ x0) ∧ ((((3 : Int) * x0) ≤ x1) ∧ (x1 ≤ (131072 : Int))))) (h1 : (x2 = (0 : Int))) (h2 : (((0 : Int) ≤ x2) ∧ (x2 ≤ (131072 : Int)))) : (((0 : Int) ≤ x2) ∧ (x2 ≤ x1)) := by omega
theorem q_1602 {x0 : Int} (h0 : (((0 : Int) ≤ x0) ∧ (x0 ≤ (65536 : Int)))) : (inr (x0 + (6 : Int))) := by omega
theorem q_1603 {x0 : Int} (h0 : (((0 : Int) ≤ x0) ∧ (x0 ≤ (131072 : Int)))) : ((0 : Int) ≤ x0) := by omega
theorem q_1604 {x0 : Int} (h0 : (x0 < (4 : Int))) (h1 : (((0 : Int) ≤ x0) ∧ (x0 ≤ (4 : Int)))) : (((0 : Int) ≤ (x0 + (1 : Int))) ∧ ((x0 + (1 : Int)) ≤ (4 : Int))) := by omega
theorem q_1605 {x0 : Int} (h0 : (x0 < (4 : Int))) (h1 : (((0 : Int) ≤ x0) ∧ (x0 ≤ (4 : Int)))) : (inr (x0 + (1 : Int))) := by omega
theorem q_1606 : (((0 : Int) ≤ (14 : Int)) ∧ ((14 : Int) ≤ (20 : Int))) := by omega
theorem q_1607 : (inr (14 : Int)) := by omega
theorem q_1608 {x0 x1 x2 : Int} (h0 : (x0 ≠ (3 : Int))) : (((x0 ≠ (3 : Int)) ∧ (x1 = x1)) ∨ ((x0 = (3 : Int)) ∧ (x1 = (x2 - ((3 : Int) * x1))))) := by omega
theorem q_1609 {x0 x1 x2 : Int} (h0 : (x0 = (3 : Int))) : (((x0 ≠ (3 : Int)) ∧ ((x1 - ((3 : Int) * x2)) = x2)) ∨ ((x0 = (3 : Int)) ∧ ((x1 - ((3 : Int) * x2)) = (x1 - ((3 : Int) * x2))))) := by omega
theorem q_1610 {x0 x1 : Int} (h0 : (((0 : Int) ≤ x0) ∧ ((((3 : Int) * x0) ≤ x1) ∧ (x1 ≤ (131072 : Int))))) (h1 : (x0 = ((x1 + (3 : Int)) / (4 : Int)))) : (inr (x1 - ((3 : Int) * x0))) := by omega
theorem q_1611 {x0 x1 : Int} (h0 : (x0 < (4 : Int))) (h1 : (((0 : Int) ≤ x0) ∧ (x0 ≤ (4 : Int)))) (h2 : (((0 : Int) ≤ x1) ∧ (x1 ≤ (65536 : Int)))) : (inr (x1 + ((2 : Int) * x0))) := by omega
theorem q_1612 {x0 x1 x2 : Int} (h0 : (x0 < x1)) (h1 : (((0 : Int) ≤ x0) ∧ ((x0 ≤ x1) ∧ (x1 ≤ x2)))) (h2 : (((0 : Int) ≤ x2) ∧ (x2 ≤ (65536 : Int)))) (h3 : (((0 : Int) ≤ x0) ∧ (x0 ≤ (65536 : Int)))) : (((0 : Int) ≤ x0) ∧ (x0 < ((65536 : Nat) : Int))) := by omega
theorem q_1613 {x0 : Int} (h0 : (((0 : Int) ≤ x0) ∧ (x0 ≤ (255 : Int)))) : ((inr (x0 / (4 : Int))) ∧ ((0 : Int) ≤ (x0 / (4 : Int)))) := by omega
theorem q_1614 {x0 x1 : Int} (h0 : (x0 < x1)) (h1 : (inr x1)) (h2 : (((0 : Int) ≤ x0) ∧ (x0 ≤ (65536 : Int)))) : (inr (x1 - x0)) := by omega
theorem q_1615 {x0 x1 x2 x3 x4 : Int} (h0 : (x0 ≤ (x1 - x2))) (h1 : (((0 : Int) ≤ x2) ∧ ((x2 ≤ x1) ∧ (x1 ≤ x3)))) (h2 : (((((x4 / (4 : Int)) % (4 : Int)) ≥ (2 : Int)) ∧ (x0 = (((x4 / (4 : Int)) % (4 : Int)) + (2 : Int)))) ∨ ((((x4 / (4 : Int)) % (4 : Int)) < (2 : Int)) ∧ (x0 = (3 : Int))))) (h3 : (((0 : Int) ≤ x3) ∧ (x3 ≤ (65536 : Int)))) (h4 : (((0 : Int) ≤ x2) ∧ (x2 ≤ (65536 : Int)))) : (((0 : Int) ≤ x2) ∧ (((0 : Int) ≤ x0) ∧ ((x0 ≤ (8 : Int)) ∧ ((x2 + x0) ≤ (65536 : Int))))) := by omega
theorem q_1616 {x0 x1 : Int} (h0 : (((((x0 / (4 : Int)) % (4 : Int)) ≥ (2 : Int)) ∧ ((((x0 / (4 : Int)) % (4 : Int)) ≠ (2 : Int)) ∧ (x1 = (18 : Int)))) ∨ (((((x0 / (4 : Int)) % (4 : Int)) ≥ (2 : Int)) ∧ ((((x0 / (4 : Int)) % (4 : Int)) = (2 : Int)) ∧ (x1 = (14 : Int)))) ∨ ((((x0 / (4 : Int)) % (4 : Int)) < (2 : Int)) ∧ (x1 = (10 : Int)))))) : (((0 : Int) ≤ x1) ∧ (x1 ≤ (63 : Int))) := by omega
theorem q_1617 : (((0 : Int) ≤ (11 : Int)) ∧ ((11 : Int) ≤ (20 : Int))) := by omega
theorem q_1618 {x0 x1 x2 x3 : Int} (h0 : (x0 ≤ (x1 - x2))) (h1 : (inr x0)) (h2 : (x3 = (0 : Int))) : ((x3 = (1 : Int)) → ((x2 ≤ (x2 + x0)) ∧ ((x2 + x0) ≤ x1))) := by omega
theorem q_1619 {x0 : Int} : (inr ((x0 / (4 : Int)) % (4 : Int))) := by omega
theorem q_1620 {x0 : Int} (h0 : (((0 : Int) ≤ x0) ∧ (x0 ≤ (11 : Int)))) : ((0 : Int) ≤ x0) := by omega
theorem q_1621 {x0 : Int} : (((x0 + (3 : Int)) / (4 : Int)) = ((x0 + (3 : Int)) / (4 : Int))) := by omega
theorem q_1622 {x0 x1 x2 x3 x4 x5 : Int} (h0 : (x0 ≤ (x1 - (x2 + x3)))) (h1 : (((0 : Int) ≤ x2) ∧ ((x2 ≤ x1) ∧ (x1 ≤ x4)))) (h2 : (((x2 + x3) ≤ x5) ∧ (x5 ≤ ((x2 + x3) + x0)))) (h3 : (((0 : Int) ≤ x4) ∧ (x4 ≤ (65536 : Int)))) (h4 : (((0 : Int) ≤ x5) ∧ (x5 ≤ (65536 : Int)))) : (((0 : Int) ≤ x5) ∧ ((x5 ≤ ((x2 + x3) + x0)) ∧ (((x2 + x3) + x0) ≤ (65536 : Int)))) := by omega
theorem q_1623 {x0 x1 x2 x3 x4 x5 : Int} (h0 : (x0 ≤ (x1 - (x2 + x3)))) (h1 : (((0 : Int) ≤ x2) ∧ ((x2 ≤ x1) ∧ (x1 ≤ x4)))) (h2 : (inr x3)) (h3 : (((x2 + x3) ≤ x5) ∧ (x5 ≤ ((x2 + x3) + x0)))) (h4 : (((0 : Int) ≤ x4) ∧ (x4 ≤ (65536 : Int)))) (h5 : (((0 : Int) ≤ x2) ∧ (x2 ≤ (65536 : Int)))) : (inr ((x2 + x3) + x0)) := by omega
theorem q_1624 {x0 x1 x2 x3 x4 x5 : Int} (h0 : (x0 ≤ (x1 - (x2 + x3)))) (h1 : (((0 : Int) ≤ x2) ∧ ((x2 ≤ x1) ∧ (x1 ≤ x4)))) (h2 : (((x2 + x3) ≤ x5) ∧ (x5 ≤ ((x2 + x3) + x0)))) (h3 : (((0 : Int) ≤ x4) ∧ (x4 ≤ (65536 : Int)))) (h4 : (((0 : Int) ≤ x5) ∧ (x5 ≤ (65536 : Int)))) : (((0 : Int) ≤ ((x2 + x3) + x0)) ∧ (((x2 + x3) + x0) ≤ (65536 : Int))) := by omega
theorem q_1625 {x0 x1 x2 x3 x4 : Int} (h0 : (x0 ≤ (x1 - (x2 + x3)))) (h1 : (((x2 + x3) ≤ x4) ∧ (x4 ≤ ((x2 + x3) + x0)))) (h2 : (((0 : Int) ≤ x2) ∧ (x2 ≤ (65536 : Int)))) (h3 : (((0 : Int) ≤ x4) ∧ (x4 ≤ (65536 : Int)))) : (((0 : Int) = (1 : Int)) → ((x2 ≤ x4) ∧ (x4 ≤ x1))) := by omega
theorem q_1626 {x0 x1 x2 x3 x4 x5 : Int} (h0 : (x0 ≤ (x1 - (x2 + x3)))) (h1 : (((0 : Int) ≤ x2) ∧ ((x2 ≤ x1) ∧ (x1 ≤ x4)))) (h2 : (((x2 + x3) ≤ x5) ∧ (x5 ≤ ((x2 + x3) + x0)))) (h3 : (((0 : Int) ≤ x4) ∧ (x4 ≤ (65536 : Int)))) (h4 : (((0 : Int) ≤ x5) ∧ (x5 ≤ (65536 : Int)))) : (((0 : Int) ≤ x5) ∧ ((x5 ≤ (65536 : Int)) ∧ (((0 : Int) ≤ ((x2 + x3) + x0)) ∧ (((x2 + x3) + x0) ≤ (65536 : Int))))) := by omega
theorem q_1627 {x0 x1 x2 x3 x4 x5 : Int} (h0 : (x0 ≤ (x1 - (x2 + x3)))) (h1 : (((x2 + x3) ≤ x4) ∧ (x4 ≤ ((x2 + x3) + x0)))) (h2 : (x5 = (0 : Int))) (h3 : (((0 : Int) ≤ x2) ∧ (x2 ≤ (65536 : Int)))) (h4 : (((0 : Int) ≤ x4) ∧ (x4 ≤ (65536 : Int)))) : ((x5 = (1 : Int)) → ((x2 ≤ x4) ∧ (x4 ≤ x1))) := by omega
theorem q_1628 {x0 : Int} (h0 : ((2 : Int) ≤ (x0 % (4 : Int)))) : (inr (x0 % (4 : Int))) := by omega
theorem q_1629 {x0 x1 x2 x3 : Int} (h0 : (x0 ≤ (x1 - x2))) (h1 : (((0 : Int) ≤ x2) ∧ ((x2 ≤ x1) ∧ (x1 ≤ x3)))) (h2 : (inr x0)) (h3 : (((0 : Int) ≤ x3) ∧ (x3 ≤ (65536 : Int)))) (h4 : (((0 : Int) ≤ x2) ∧ (x2 ≤ (65536 : Int)))) : (inr (x2 + x0)) := by omega
theorem q_1630 {x0 x1 x2 x3 x4 x5 : Int} {p0 : Prop} (h0 : (x0 ≤ (x1 - (x2 + x3)))) (h1 : ((0 : Int) ≤ x4)) (h2 : (((0 : Int) ≤ x2) ∧ ((x2 ≤ x1) ∧ (x1 ≤ x5)))) (h3 : ((x4 = (-(1 : Int))) ∨ (((x2 + x3) < x4) ∧ (x4 ≤ ((x2 + x3) + x0))))) (h4 : ((x4 ≠ (-(1 : Int))) → p0)) (h5 : (((0 : Int) ≤ x5) ∧ (x5 ≤ (65536 : Int)))) : (((0 : Int) ≤ x4) ∧ (x4 ≤ (65536 : Int))) := by omega
theorem q_1631 {x0 x1 x2 x3 : Int} {p0 : Prop} (h0 : ((0 : Int) ≤ x0)) (h1 : (inr x1)) (h2 : ((x0 = (-(1 : Int))) ∨ (((x2 + x1) < x0) ∧ (x0 ≤ ((x2 + x1) + x3))))) (h3 : ((x0 ≠ (-(1 : Int))) → p0)) (h4 : (((0 : Int) ≤ x2) ∧ (x2 ≤ (65536 : Int)))) : (((x2 + x1) ≤ x0) ∧ (x0 ≤ ((x2 + x1) + x3))) := by omega
theorem q_1632 {x0 x1 x2 : Int} (h0 : (x0 < x1)) (h1 : (((0 : Int) ≤ x0) ∧ ((x0 ≤ x1) ∧ (x1 ≤ x2)))) (h2 : (((0 : Int) ≤ x2) ∧ (x2 ≤ (65536 : Int)))) : (((0 : Int) ≤ x1) ∧ (x1 ≤ (65536 : Int))) := by omega
theorem q_1633 : (((0 : Int) ≤ (10 : Int)) ∧ ((10 : Int) ≤ (20 : Int))) := by omega
theorem q_1634 {x0 x1 : Int} (h0 : ((x0 % (4 : Int)) ≠ (3 : Int))) : (((x0 % (4 : Int)) ≠ (3 : Int)) ∨ (((x0 % (4 : Int)) = (3 : Int)) ∧ (x1 ≠ (0 : Int)))) := by omega
theorem q_1635 {x0 x1 : Int} (h0 : ((x0 % (4 : Int)) = (3 : Int))) (h1 : (x1 ≠ (0 : Int))) : (((x0 % (4 : Int)) ≠ (3 : Int)) ∨ (((x0 % (4 : Int)) = (3 : Int)) ∧ (x1 ≠ (0 : Int)))) := by omega
theorem q_1636 : (((0 : Int) ≤ (13 : Int)) ∧ ((13 : Int) ≤ (20 : Int))) := by omega
theorem q_1637 {x0 x1 : Int} (h0 : (((x0 / (4 : Int)) % (4 : Int)) ≤ (0 : Int))) : ((((x0 / (4 : Int)) % (4 : Int)) ≤ (0 : Int)) ∨ ((((x0 / (4 : Int)) % (4 : Int)) > (0 : Int)) ∧ (x1 ≥ ((3 : Int) * ((x1 + (3 : Int)) / (4 : Int)))))) := by omega
theorem q_1638 {x0 x1 : Int} (h0 : ((0 : Int) < ((x0 / (4 : Int)) % (4 : Int)))) (h1 : (((3 : Int) * ((x1 + (3 : Int)) / (4 : Int))) ≤ x1)) : ((((x0 / (4 : Int)) % (4 : Int)) ≤ (0 : Int)) ∨ ((((x0 / (4 : Int)) % (4 : Int)) > (0 : Int)) ∧ (x1 ≥ ((3 : Int) * ((x1 + (3 : Int)) / (4 : Int)))))) := by omega
theorem q_1639 {x0 x1 x2 x3 : Int} (h0 : (((0 : Int) ≤ x0) ∧ ((x0 ≤ x1) ∧ (x1 ≤ x2)))) : ((x3 = (1 : Int)) → ((x0 ≤ x0) ∧ (x0 ≤ x1))) := by omega
theorem q_1640 {x0 : Int} (h0 : ((2 : Int) ≤ ((x0 / (4 : Int)) % (4 : Int)))) : (inr ((x0 / (4 : Int)) % (4 : Int))) := by omega
theorem q_1641 {x0 : Int} (h0 : ((2 : Int) ≤ ((x0 / (4 : Int)) % (4 : Int)))) (h1 : (((x0 / (4 : Int)) % (4 : Int)) ≠ (2 : Int))) : (((((x0 / (4 : Int)) % (4 : Int)) ≥ (2 : Int)) ∧ ((((x0 / (4 : Int)) % (4 : Int)) ≠ (2 : Int)) ∧ ((18 : Int) = (18 : Int)))) ∨ (((((x0 / (4 : Int)) % (4 : Int)) ≥ (2 : Int)) ∧ ((((x0 / (4 : Int)) % (4 : Int)) = (2 : Int)) ∧ ((18 : Int) = (14 : Int)))) ∨ ((((x0 / (4 : Int)) % (4 : Int)) < (2 : Int)) ∧ ((18 : Int) = (10 : Int))))) := by omega
theorem q_1642 {x0 : Int} (h0 : (((x0 / (4 : Int)) % (4 : Int)) = (2 : Int))) : (((((x0 / (4 : Int)) % (4 : Int)) ≥ (2 : Int)) ∧ ((((x0 / (4 : Int)) % (4 : Int)) ≠ (2 : Int)) ∧ ((14 : Int) = (18 : Int)))) ∨ (((((x0 / (4 : Int)) % (4 : Int)) ≥ (2 : Int)) ∧ ((((x0 / (4 : Int)) % (4 : Int)) = (2 : Int)) ∧ ((14 : Int) = (14 : Int)))) ∨ ((((x0 / (4 : Int)) % (4 : Int)) < (2 : Int)) ∧ ((14 : Int) = (10 : Int))))) := by omega
theorem q_1643 {x0 : Int} (h0 : (((x0 / (4 : Int)) % (4 : Int)) < (2 : Int))) : (((((x0 / (4 : Int)) % (4 : Int)) ≥ (2 : Int)) ∧ ((((x0 / (4 : Int)) % (4 : Int)) ≠ (2 : Int)) ∧ ((10 : Int) = (18 : Int)))) ∨ (((((x0 / (4 : Int)) % (4 : Int)) ≥ (2 : Int)) ∧ ((((x0 / (4 : Int)) % (4 : Int)) = (2 : Int)) ∧ ((10 : Int) = (14 : Int)))) ∨ ((((x0 / (4 : Int)) % (4 : Int)) < (2 : Int)) ∧ ((10 : Int) = (10 : Int))))) := by omega
theorem q_1644 {x0 : Int} (h0 : ((2 : Int) ≤ ((x0 / (4 : Int)) % (4 : Int)))) : (((((x0 / (4 : Int)) % (4 : Int)) ≥ (2 : Int)) ∧ ((((x0 / (4 : Int)) % (4 : Int)) + (2 : Int)) = (((x0 / (4 : Int)) % (4 : Int)) + (2 : Int)))) ∨ ((((x0 / (4 : Int)) % (4 : Int)) < (2 : Int)) ∧ ((((x0 / (4 : Int)) % (4 : Int)) + (2 : Int)) = (3 : Int)))) := by omega
theorem q_1645 {x0 : Int} (h0 : ((2 : Int) ≤ ((x0 / (4 : Int)) % (4 : Int)))) : (inr (((x0 / (4 : Int)) % (4 : Int)) + (2 : Int))) := by omega
theorem q_1646 {x0 : Int} (h0 : (((x0 / (4 : Int)) % (4 : Int)) < (2 : Int))) : (((((x0 / (4 : Int)) % (4 : Int)) ≥ (2 : Int)) ∧ ((3 : Int) = (((x0 / (4 : Int)) % (4 : Int)) + (2 : Int)))) ∨ ((((x0 / (4 : Int)) % (4 : Int)) < (2 : Int)) ∧ ((3 : Int) = (3 : Int)))) := by omega
theorem q_1647 {x0 : Int} : ((inr ((x0 / (4 : Int)) % (4 : Int))) ∧ ((0 : Int) ≤ ((x0 / (4 : Int)) % (4 : Int)))) := by omega
theorem q_1648 {x0 x1 x2 x3 x4 : Int} (h0 : (x0 ≤ (x1 - x2))) (h1 : (((0 : Int) ≤ x2) ∧ ((x2 ≤ x1) ∧ (x1 ≤ x3)))) (h2 : ((((((x4 / (4 : Int)) % (4 : Int)) % (2 : Int)) ≠ (0 : Int)) ∧ ((((x4 / (4 : Int)) % (4 : Int)) ≠ (1 : Int)) ∧ (x0 = (3 : Int)))) ∨ ((((((x4 / (4 : Int)) % (4 : Int)) % (2 : Int)) ≠ (0 : Int)) ∧ ((((x4 / (4 : Int)) % (4 : Int)) = (1 : Int)) ∧ (x0 = (2 : Int)))) ∨ (((((x4 / (4 : Int)) % (4 : Int)) % (2 : Int)) = (0 : Int)) ∧ (x0 = (1 : Int)))))) (h3 : (((0 : Int) ≤ x3) ∧ (x3 ≤ (65536 : Int)))) (h4 : (((0 : Int) ≤ x2) ∧ (x2 ≤ (65536 : Int)))) : (((0 : Int) ≤ x2) ∧ (((0 : Int) ≤ x0) ∧ ((x0 ≤ (8 : Int)) ∧ ((x2 + x0) ≤ (65536 : Int))))) := by omega
theorem q_1649 {x0 x1 : Int} (h0 : (inr x0)) (h1 : (((x1 ≠ (1 : Int)) ∧ (x0 = (16 : Int))) ∨ ((x1 = (1 : Int)) ∧ (x0 = (8 : Int))))) : ((inr x0) ∧ ((0 : Int) < x0)) := by omega
theorem q_1650 {x0 x1 : Int} : (((0 : Int) ≤ (0 : Int)) ∨ ((0 : Int) ≤ (x0 / x1))) := by omega
theorem q_1651 {x0 x1 x2 : Int} (h0 : ((x0 / x1) ≤ x2)) (h1 : (((0 : Int) ≤ (x0 / x1)) ∧ ((x0 / x1) ≤ x0))) (h2 : (((0 : Int) ≤ x2) ∧ (x2 ≤ (131072 : Int)))) : (inr (x0 / x1)) := by omega
theorem q_1652 {x0 x1 x2 : Int} (h0 : ((x0 / x1) ≤ x2)) (h1 : (((0 : Int) ≤ (x0 / x1)) ∧ ((x0 / x1) ≤ x0))) (h2 : (((0 : Int) ≤ x2) ∧ (x2 ≤ (131072 : Int)))) : (((0 : Int) ≤ (x0 / x1)) ∧ ((x0 / x1) ≤ (131072 : Int))) := by omega
theorem q_1653 {x0 : Int} (h0 : ((x0 % (4 : Int)) < (2 : Int))) : (inr (x0 % (4 : Int))) := by omega
theorem q_1654 {x0 x1 x2 x3 : Int} (h0 : ((x0 / x1) ≤ x2)) (h1 : (x3 < (x0 / x1))) (h2 : ((0 : Int) ≤ x3)) (h3 : (((0 : Int) ≤ x2) ∧ (x2 ≤ (131072 : Int)))) : (((0 : Int) ≤ x3) ∧ (x3 < ((131072 : Nat) : Int))) := by omega
theorem q_1655 {x0 x1 x2 : Int} (h0 : (x0 < (x1 / x2))) : (((x0 + (1 : Int)) ≤ (0 : Int)) ∨ ((x0 + (1 : Int)) ≤ (x1 / x2))) := by omega
theorem q_1656 {x0 x1 x2 x3 : Int} (h0 : ((x0 / x1) ≤ x2)) (h1 : (x3 < (x0 / x1))) (h2 : ((0 : Int) ≤ x3)) (h3 : (((0 : Int) ≤ x2) ∧ (x2 ≤ (131072 : Int)))) : (inr (x3 + (1 : Int))) := by omega
theorem q_1657 {x0 x1 x2 : Int} : (((x0 / x1) - (x2 + (1 : Int))) < ((x0 / x1) - x2)) := by omega
theorem q_1658 {x0 x1 x2 : Int} (h0 : (x0 < (x1 / x2))) : ((0 : Int) < ((x1 / x2) - x0)) := by omega
theorem q_1659 {x0 x1 x2 : Int} (h0 : ((x0 % (4 : Int)) ≠ (0 : Int))) : ((((x0 % (4 : Int)) ≠ (0 : Int)) ∧ ((1 : Int) = (1 : Int))) ∨ (((x0 % (4 : Int)) = (0 : Int)) ∧ ((1 : Int) = (x1 / x2)))) := by omega
theorem q_1660 {x0 x1 x2 : Int} (h0 : ((x0 % (4 : Int)) = (0 : Int))) : ((((x0 % (4 : Int)) ≠ (0 : Int)) ∧ ((x1 / x2) = (1 : Int))) ∨ (((x0 % (4 : Int)) = (0 : Int)) ∧ ((x1 / x2) = (x1 / x2)))) := by omega
theorem q_1661 {x0 : Int} (h0 : (x0 ≠ (1 : Int))) : (((x0 ≠ (1 : Int)) ∧ ((16 : Int) = (16 : Int))) ∨ ((x0 = (1 : Int)) ∧ ((16 : Int) = (8 : Int)))) := by omega
theorem q_1662 {x0 : Int} (h0 : (x0 = (1 : Int))) : (((x0 ≠ (1 : Int)) ∧ ((8 : Int) = (16 : Int))) ∨ ((x0 = (1 : Int)) ∧ ((8 : Int) = (8 : Int)))) := by omega
theorem q_1663 {x0 : Int} : (inr (((x0 / (4 : Int)) % (4 : Int)) % (2 : Int))) := by omega
theorem q_1664 {x0 : Int} (h0 : ((((x0 / (4 : Int)) % (4 : Int)) % (2 : Int)) ≠ (0 : Int))) (h1 : (((x0 / (4 : Int)) % (4 : Int)) ≠ (1 : Int))) : ((((((x0 / (4 : Int)) % (4 : Int)) % (2 : Int)) ≠ (0 : Int)) ∧ ((((x0 / (4 : Int)) % (4 : Int)) ≠ (1 : Int)) ∧ ((3 : Int) = (3 : Int)))) ∨ ((((((x0 / (4 : Int)) % (4 : Int)) % (2 : Int)) ≠ (0 : Int)) ∧ ((((x0 / (4 : Int)) % (4 : Int)) = (1 : Int)) ∧ ((3 : Int) = (2 : Int)))) ∨ (((((x0 / (4 : Int)) % (4 : Int)) % (2 : Int)) = (0 : Int)) ∧ ((3 : Int) = (1 : Int))))) := by omega
theorem q_1665 {x0 : Int} (h0 : ((((x0 / (4 : Int)) % (4 : Int)) % (2 : Int)) ≠ (0 : Int))) (h1 : (((x0 / (4 : Int)) % (4 : Int)) = (1 : Int))) : ((((((x0 / (4 : Int)) % (4 : Int)) % (2 : Int)) ≠ (0 : Int)) ∧ ((((x0 / (4 : Int)) % (4 : Int)) ≠ (1 : Int)) ∧ ((2 : Int) = (3 : Int)))) ∨ ((((((x0 / (4 : Int)) % (4 : Int)) % (2 : Int)) ≠ (0 : Int)) ∧ ((((x0 / (4 : Int)) % (4 : Int)) = (1 : Int)) ∧ ((2 : Int) = (2 : Int)))) ∨ (((((x0 / (4 : Int)) % (4 : Int)) % (2 : Int)) = (0 : Int)) ∧ ((2 : Int) = (1 : Int))))) := by omega
theorem q_1666 {x0 : Int} (h0 : ((((x0 / (4 : Int)) % (4 : Int)) % (2 : Int)) = (0 : Int))) : ((((((x0 / (4 : Int)) % (4 : Int)) % (2 : Int)) ≠ (0 : Int)) ∧ ((((x0 / (4 : Int)) % (4 : Int)) ≠ (1 : Int)) ∧ ((1 : Int) = (3 : Int)))) ∨ ((((((x0 / (4 : Int)) % (4 : Int)) % (2 : Int)) ≠ (0 : Int)) ∧ ((((x0 / (4 : Int)) % (4 : Int)) = (1 : Int)) ∧ ((1 : Int) = (2 : Int)))) ∨ (((((x0 / (4 : Int)) % (4 : Int)) % (2 : Int)) = (0 : Int)) ∧ ((1 : Int) = (1 : Int))))) := by omega
theorem q_1667 {x0 x1 x2 : Int} (h0 : (x0 ≤ x1)) (h1 : (((0 : Int) ≤ x1) ∧ ((x1 ≤ x0) ∧ (x0 ≤ x2)))) (h2 : (((0 : Int) ≤ x1) ∧ (x1 ≤ (65536 : Int)))) : (((0 : Int) ≤ x0) ∧ (x0 ≤ (65536 : Int))) := by omega
theorem q_1668 {x0 x1 x2 : Int} (h0 : (x0 < x1)) (h1 : (((0 : Int) ≤ x0) ∧ ((x0 ≤ x1) ∧ (x1 ≤ x2)))) (h2 : (((0 : Int) ≤ x2) ∧ (x2 ≤ (65536 : Int)))) (h3 : (((0 : Int) ≤ x0) ∧ (x0 ≤ (65536 : Int)))) : (((0 : Int) ≤ (x0 + (1 : Int))) ∧ ((x0 + (1 : Int)) ≤ (65536 : Int))) := by omega
theorem q_1669 {x0 x1 : Int} (h0 : (x0 < x1)) : (((x0 + (1 : Int)) ≤ (x0 + (1 : Int))) ∧ ((x0 + (1 : Int)) ≤ x1)) := by omega
theorem q_1670 {x0 x1 x2 : Int} (h0 : (((x0 + (1 : Int)) ≤ x1) ∧ (x1 ≤ x2))) : (((1 : Int) = (1 : Int)) → ((x0 ≤ x1) ∧ (x1 ≤ x2))) := by omega
theorem q_1671 {x0 x1 x2 x3 : Int} (h0 : (((x0 + (1 : Int)) ≤ x1) ∧ (x1 ≤ x2))) (h1 : ((x1 ≤ x3) ∧ (x3 ≤ x2))) : (((x0 + (1 : Int)) ≤ x3) ∧ (x3 ≤ x2)) := by omega
theorem q_1672 {x0 : Int} (h0 : (x0 < (3 : Int))) (h1 : (((0 : Int) ≤ x0) ∧ (x0 ≤ (3 : Int)))) : (((0 : Int) ≤ x0) ∧ (x0 < ((3 : Nat) : Int))) := by omega
theorem q_1673 : (((0 : Int) ≤ (16 : Int)) ∧ ((16 : Int) ≤ (20 : Int))) := by omega
theorem q_1674 {x0 x1 x2 x3 : Int} (h0 : (((x0 + (1 : Int)) ≤ x1) ∧ (x1 ≤ x2))) : ((x3 = (1 : Int)) → ((x0 ≤ x1) ∧ (x1 ≤ x2))) := by omega
theorem q_1675 {x0 x1 x2 : Int} (h0 : (((x0 ≠ (1 : Int)) ∧ (x1 = (9 : Int))) ∨ ((x0 = (1 : Int)) ∧ (x1 = (8 : Int))))) (h1 : (((0 : Int) ≤ x2) ∧ (x2 ≤ (52 : Int)))) : (((6 : Int) ≤ x1) ∧ ((x1 ≤ (9 : Int)) ∧ (((0 : Int) ≤ x2) ∧ (x2 ≤ (63 : Int))))) := by omega
theorem q_1676 {x0 x1 x2 x3 : Int} (h0 : (x0 < x1)) (h1 : (((0 : Int) ≤ x0) ∧ ((x0 ≤ x1) ∧ (x1 ≤ x2)))) (h2 : (((0 : Int) ≤ x2) ∧ (x2 ≤ (65536 : Int)))) (h3 : (((0 : Int) ≤ x3) ∧ (x3 ≤ (65536 : Int)))) : (((0 : Int) ≤ x3) ∧ ((x3 ≤ (65536 : Int)) ∧ ((x1 ≤ (65536 : Int)) ∧ ((0 : Int) ≤ x1)))) := by omega
theorem q_1677 {x0 x1 x2 x3 x4 x5 x6 : Int} {p0 : Prop} (h0 : ((0 : Int) ≤ x0)) (h1 : (((0 : Int) ≤ x1) ∧ ((x1 ≤ x2) ∧ (x2 ≤ x3)))) (h2 : ((x0 = (-(1 : Int))) ∨ ((x4 ≤ x0) ∧ ((x0 ≤ x2) ∧ (((5 : Int) ≤ x5) ∧ (x5 ≤ x6)))))) (h3 : ((x0 ≠ (-(1 : Int))) → p0)) (h4 : (((0 : Int) ≤ x3) ∧ (x3 ≤ (65536 : Int)))) : (((0 : Int) ≤ x0) ∧ (x0 ≤ (65536 : Int))) := by omega
theorem q_1678 {x0 x1 x2 x3 x4 x5 x6 : Int} {p0 : Prop} (h0 : (x0 < x1)) (h1 : ((0 : Int) ≤ x2)) (h2 : (((0 : Int) ≤ x0) ∧ ((x0 ≤ x1) ∧ (x1 ≤ x3)))) (h3 : ((x2 = (-(1 : Int))) ∨ ((x4 ≤ x2) ∧ ((x2 ≤ x1) ∧ (((5 : Int) ≤ x5) ∧ (x5 ≤ x6)))))) (h4 : ((x2 ≠ (-(1 : Int))) → p0)) (h5 : (((0 : Int) ≤ x4) ∧ (x4 ≤ (65536 : Int)))) : ((x4 ≤ x2) ∧ (x2 ≤ x1)) := by omega
theorem q_1679 {x0 : Int} (h0 : (x0 ≠ (1 : Int))) : (((x0 ≠ (1 : Int)) ∧ ((9 : Int) = (9 : Int))) ∨ ((x0 = (1 : Int)) ∧ ((9 : Int) = (8 : Int)))) := by omega
theorem q_1680 {x0 : Int} (h0 : (x0 = (1 : Int))) : (((x0 ≠ (1 : Int)) ∧ ((8 : Int) = (9 : Int))) ∨ ((x0 = (1 : Int)) ∧ ((8 : Int) = (8 : Int)))) := by omega
theorem q_1681 {x0 x1 x2 x3 : Int} (h0 : (x0 < x1)) (h1 : (((0 : Int) ≤ x2) ∧ ((x2 ≤ x1) ∧ (x1 ≤ x3)))) (h2 : (((0 : Int) ≤ x3) ∧ (x3 ≤ (65536 : Int)))) (h3 : (((0 : Int) ≤ x0) ∧ (x0 ≤ (65536 : Int)))) : (((0 : Int) ≤ x0) ∧ (x0 < ((65536 : Nat) : Int))) := by omega
theorem q_1682 {x0 x1 x2 x3 : Int} (h0 : (x0 < x1)) (h1 : (((0 : Int) ≤ x2) ∧ ((x2 ≤ x1) ∧ (x1 ≤ x3)))) (h2 : (((0 : Int) ≤ x3) ∧ (x3 ≤ (65536 : Int)))) (h3 : (((0 : Int) ≤ x0) ∧ (x0 ≤ (65536 : Int)))) : (((0 : Int) ≤ (x0 + (1 : Int))) ∧ ((x0 + (1 : Int)) ≤ (65536 : Int))) := by omega
theorem q_1683 : (((-(1 : Int)) ≤ (0 : Int)) ∧ ((0 : Int) ≤ (9 : Int))) := by omega
theorem q_1684 {x0 x1 : Int} (h0 : (x0 ≤ x1)) (h1 : (((0 : Int) ≤ x1) ∧ (x1 ≤ (52 : Int)))) (h2 : (((0 : Int) ≤ x0) ∧ (x0 ≤ (255 : Int)))) : (((-(1 : Int)) ≤ x0) ∧ (x0 ≤ (63 : Int))) := by omega
theorem q_1685 {x0 : Int} (h0 : (x0 < (3 : Int))) (h1 : (((0 : Int) ≤ x0) ∧ (x0 ≤ (3 : Int)))) : (((0 : Int) ≤ ((512 : Int) * x0)) ∧ (((512 : Int) * x0) < ((1536 : Nat) : Int))) := by omega
theorem q_1686 : (((0 : Int) ≤ (0 : Int)) ∧ ((0 : Int) ≤ (9 : Int))) := by omega
theorem q_1687 : (((0 : Int) ≤ (0 : Int)) ∧ ((0 : Int) ≤ (511 : Int))) := by omega
theorem q_1688 {x0 x1 : Int} (h0 : (x0 < x1)) : ((x0 ≤ (x0 + (1 : Int))) ∧ ((x0 + (1 : Int)) ≤ x1)) := by omega
theorem q_1689 : (((-(1 : Int)) ≤ (0 : Int)) ∧ ((0 : Int) ≤ (512 : Int))) := by omega
theorem q_1690 {x0 x1 : Int} (h0 : (x0 < (3 : Int))) (h1 : (x1 < (64 : Int))) (h2 : ((0 : Int) ≤ x1)) (h3 : (((0 : Int) ≤ x0) ∧ (x0 ≤ (3 : Int)))) : (((0 : Int) ≤ (((64 : Int) * x0) + x1)) ∧ ((((64 : Int) * x0) + x1) < ((192 : Nat) : Int))) := by omega
theorem q_1691 : (((-(1 : Int)) ≤ (1 : Int)) ∧ ((1 : Int) ≤ (512 : Int))) := by omega
theorem q_1692 {x0 x1 x2 x3 : Int} (h0 : (x0 < x1)) (h1 : (((x2 + (1 : Int)) ≤ x0) ∧ (x0 ≤ x1))) : ((x3 = (1 : Int)) → ((x2 ≤ (x0 + (1 : Int))) ∧ ((x0 + (1 : Int)) ≤ x1))) := by omega
theorem q_1693 {x0 x1 x2 x3 : Int} (h0 : (x0 < x1)) (h1 : (x1 ≤ x2)) (h2 : (((0 : Int) ≤ x0) ∧ ((x0 ≤ x1) ∧ (x1 ≤ x3)))) (h3 : (((0 : Int) ≤ x2) ∧ (x2 ≤ (65536 : Int)))) : (((0 : Int) ≤ x1) ∧ (x1 ≤ (65536 : Int))) := by omega
theorem q_1694 : (((0 : Int) ≤ (15 : Int)) ∧ ((15 : Int) ≤ (20 : Int))) := by omega
theorem q_1695 {x0 x1 x2 : Int} (h0 : (x0 < x1)) : ((x2 = (1 : Int)) → ((x0 ≤ (x0 + (1 : Int))) ∧ ((x0 + (1 : Int)) ≤ x1))) := by omega
theorem q_1696 {x0 x1 x2 x3 : Int} (h0 : (((0 : Int) ≤ x0) ∧ ((x0 ≤ x1) ∧ (x1 ≤ x2)))) (h1 : (((0 : Int) ≤ x2) ∧ (x2 ≤ (65536 : Int)))) (h2 : (((0 : Int) ≤ x3) ∧ (x3 ≤ (65536 : Int)))) : (((0 : Int) ≤ x3) ∧ ((x3 ≤ (65536 : Int)) ∧ (((0 : Int) ≤ x1) ∧ (x1 ≤ (65536 : Int))))) := by omega
theorem q_1697 : (((0 : Int) ≤ (17 : Int)) ∧ ((17 : Int) ≤ (20 : Int))) := by omega
theorem q_1698 {x0 x1 x2 x3 : Int} (h0 : (((1 : Int) ≤ x0) ∧ (((1 : Int) ≤ x1) ∧ ((1 : Int) ≤ x2)))) : ((x3 = (1 : Int)) → (((1 : Int) ≤ x0) ∧ (((1 : Int) ≤ x1) ∧ ((1 : Int) ≤ x2)))) := by omega
theorem q_1699 {x0 x1 x2 : Int} (h0 : (((-(1 : Int)) ≤ x0) ∧ (x0 ≤ (9 : Int)))) (h1 : (((-(1 : Int)) ≤ x1) ∧ (x1 ≤ (9 : Int)))) (h2 : (((-(1 : Int)) ≤ x2) ∧ (x2 ≤ (9 : Int)))) : (inr ((x0 + x1) + x2)) := by omega
theorem q_1700 {x0 x1 x2 x3 x4 x5 x6 : Int} (h0 : (x0 ≠ (0 : Int))) (h1 : (((0 : Int) ≤ x1) ∧ ((x1 ≤ x2) ∧ (x2 ≤ x3)))) (h2 : ((x0 = (0 : Int)) ∨ (x0 = (1 : Int)))) (h3 : ((x0 = (1 : Int)) → ((x4 < x2) ∧ ((x5 = ((8 : Int) * x4)) ∧ (((0 : Int) ≤ x6) ∧ (x6 ≤ (((8 : Int) * (x2 - x4)) - (1 : Int)))))))) (h4 : (((0 : Int) ≤ x3) ∧ (x3 ≤ (65536 : Int)))) (h5 : (((0 : Int) ≤ x5) ∧ (x5 ≤ (524288 : Int)))) (h6 : (((-(100 : Int)) ≤ x6) ∧ (x6 ≤ (524288 : Int)))) : (((0 : Int) ≤ x5) ∧ ((x5 + x6) ≤ (524288 : Int))) := by omega
theorem q_1701 {x0 x1 x2 x3 x4 x5 x6 x7 x8 : Int} (h0 : (x0 ≠ (0 : Int))) (h1 : (((0 : Int) ≤ x1) ∧ ((x1 ≤ x2) ∧ (x2 ≤ x3)))) (h2 : ((x0 = (0 : Int)) ∨ (x0 = (1 : Int)))) (h3 : ((x0 = (1 : Int)) → ((x4 < x2) ∧ ((x5 = ((8 : Int) * x4)) ∧ (((0 : Int) ≤ x6) ∧ (x6 ≤ (((8 : Int) * (x2 - x4)) - (1 : Int)))))))) (h4 : (x7 = (x6 - x8))) (h5 : (((-(1 : Int)) ≤ x8) ∧ (x8 ≤ (9 : Int)))) (h6 : (((0 : Int) ≤ x3) ∧ (x3 ≤ (65536 : Int)))) (h7 : (((0 : Int) ≤ x5) ∧ (x5 ≤ (524288 : Int)))) : (((0 : Int) ≤ x5) ∧ ((x5 + x7) ≤ (524288 : Int))) := by omega
theorem q_1702 {x0 x1 x2 x3 x4 x5 x6 x7 x8 x9 x10 x11 : Int} (h0 : (((x0 + x1) + x2) ≤ x3)) (h1 : (x4 = x0)) (h2 : (x5 = x1)) (h3 : (x6 = x2)) (h4 : (x4 = x7)) (h5 : (x5 = x8)) (h6 : (x6 = x9)) (h7 : (x10 = (x3 - x7))) (h8 : (x11 = (x10 - x8))) : (x9 ≤ x11) := by omega
theorem q_1703 {x0 x1 : Int} : ((x0 = (x0 + (0 : Int))) ∧ ((0 : Int) ≤ (x1 - x1))) := by omega
theorem q_1704 {x0 x1 x2 x3 : Int} (h0 : (x0 ≤ x1)) (h1 : (x2 ≤ x3)) (h2 : (((0 : Int) ≤ x3) ∧ (x3 ≤ (131072 : Int)))) (h3 : (((0 : Int) ≤ x0) ∧ (x0 ≤ (65536 : Int)))) (h4 : (((0 : Int) ≤ x1) ∧ (x1 ≤ (65536 : Int)))) (h5 : (((0 : Int) ≤ x2) ∧ (x2 ≤ (131072 : Int)))) : (inr (((x1 - x0) + x3) - x2)) := by omega
theorem q_1705 {x0 x1 x2 : Int} (h0 : ((x0 ≤ x1) ∧ (x1 ≤ x2))) (h1 : (((0 : Int) ≤ x2) ∧ (x2 ≤ (65536 : Int)))) (h2 : (((0 : Int) ≤ x1) ∧ (x1 ≤ (65536 : Int)))) : (inr (x2 - x1)) := by omega
theorem q_1706 {x0 x1 : Int} (h0 : (x0 ≤ x1)) (h1 : (((0 : Int) ≤ x1) ∧ (x1 ≤ (131072 : Int)))) (h2 : (((0 : Int) ≤ x0) ∧ (x0 ≤ (131072 : Int)))) : (inr (x1 - x0)) := by omega
theorem q_1707 {x0 x1 x2 : Int} (h0 : ((x0 ≤ x1) ∧ (x1 ≤ x2))) : (x0 ≤ x1) := by omega
theorem q_1708 {x0 x1 x2 x3 : Int} (h0 : ((x0 - x1) ≤ (x2 - x3))) (h1 : (x1 ≤ x0)) (h2 : (((0 : Int) ≤ x2) ∧ (x2 ≤ (65536 : Int)))) : ((x1 ≤ x0) ∧ ((x3 + (x0 - x1)) ≤ (65536 : Int))) := by omega
theorem q_1709 {x0 x1 x2 x3 x4 x5 x6 x7 : Int} (h0 : (((0 : Int) ≤ x0) ∧ (x0 ≤ x1))) (h1 : ((0 : Int) ≤ x2)) (h2 : ((x3 = (x0 + x2)) ∧ (x2 ≤ (x4 - x1)))) (h3 : (x5 ≤ x6)) (h4 : (x7 = (x4 + (x6 - x5)))) : (((0 : Int) ≤ x3) ∧ (x3 ≤ x7)) := by omega
theorem q_1710 {x0 x1 x2 : Int} (h0 : (((1 : Int) ≤ x0) ∧ (((1 : Int) ≤ x1) ∧ ((1 : Int) ≤ x2)))) : (((1 : Int) = (1 : Int)) → (((1 : Int) ≤ x0) ∧ (((1 : Int) ≤ x1) ∧ ((1 : Int) ≤ x2)))) := by omega
theorem q_1711 {x0 x1 x2 x3 x4 x5 : Int} (h0 : ((x0 - x1) ≤ (x2 - x3))) (h1 : (x4 ≤ x3)) (h2 : (x1 ≤ x0)) (h3 : (x5 = (x3 + (x0 - x1)))) : ((x4 ≤ x5) ∧ (x5 ≤ x2)) := by omega
theorem q_1712 : (((0 : Int) ≤ (7 : Int)) ∧ ((7 : Int) ≤ (20 : Int))) := by omega
theorem q_1713 {x0 x1 x2 x3 x4 : Int} (h0 : (((0 : Int) ≤ x0) ∧ (x0 ≤ x1))) (h1 : ((0 : Int) ≤ x2)) (h2 : ((x3 = (x0 + x2)) ∧ (x2 ≤ (x4 - x1)))) : (((0 : Int) ≤ x3) ∧ (x3 ≤ x4)) := by omega
theorem q_1714 {x0 x1 x2 x3 : Int} (h0 : (x0 ≤ x1)) (h1 : ((x2 ≤ x1) ∧ (x1 ≤ x3))) : ((x0 ≤ x1) ∧ (x1 ≤ x3)) := by omega
theorem q_1715 : (((0 : Int) ≤ (20 : Int)) ∧ ((20 : Int) ≤ (20 : Int))) := by omega
theorem q_1716 {x0 : Int} (h0 : (((0 : Int) ≤ x0) ∧ (x0 ≤ (511 : Int)))) : (((0 : Int) ≤ x0) ∧ (x0 < ((1536 : Nat) : Int))) := by omega
theorem q_1717 {x0 : Int} (h0 : (((0 : Int) ≤ x0) ∧ (x0 ≤ (511 : Int)))) : (((0 : Int) ≤ ((512 : Int) + x0)) ∧ (((512 : Int) + x0) < ((1536 : Nat) : Int))) := by omega
theorem q_1718 {x0 : Int} (h0 : (((0 : Int) ≤ x0) ∧ (x0 ≤ (511 : Int)))) : (((0 : Int) ≤ ((1024 : Int) + x0)) ∧ (((1024 : Int) + x0) < ((1536 : Nat) : Int))) := by omega
theorem q_1719 {x0 x1 x2 x3 x4 x5 x6 x7 : Int} (h0 : (((x0 = (0 : Int)) ∧ (((0 : Int) ≤ x1) ∧ ((x1 ≤ (9 : Int)) ∧ (((0 : Int) ≤ x2) ∧ ((x2 ≤ (9 : Int)) ∧ (((0 : Int) ≤ x3) ∧ ((x3 ≤ (9 : Int)) ∧ (x4 = ((x1 + x2) + x3))))))))) ∨ ((x0 ≠ (0 : Int)) ∧ (x4 = (0 : Int))))) (h1 : (((0 : Int) ≤ x5) ∧ (x5 ≤ (16 : Int)))) (h2 : (((0 : Int) ≤ x6) ∧ (x6 ≤ (16 : Int)))) (h3 : (((-(1 : Int)) ≤ x7) ∧ (x7 ≤ (63 : Int)))) : (inr (((x7 + x5) + x6) + x4)) := by omega
theorem q_1720 {x0 : Int} (h0 : (((0 : Int) ≤ x0) ∧ (x0 ≤ (16 : Int)))) : (((0 : Int) ≤ x0) ∧ (x0 ≤ (31 : Int))) := by omega
theorem q_1721 {x0 x1 x2 x3 x4 x5 : Int} (h0 : (((x0 + x1) + (x2 + x3)) ≤ (x4 - x5))) (h1 : (((0 : Int) ≤ x4) ∧ (x4 ≤ (65536 : Int)))) : (((x5 + (x0 + x1)) + (x2 + x3)) ≤ (65536 : Int)) := by omega
theorem q_1722 {x0 x1 x2 x3 x4 x5 x6 x7 x8 : Int} (h0 : ((x0 + x1) ≤ (x2 - x3))) (h1 : (x4 = (0 : Int))) (h2 : ((0 : Int) ≤ x5)) (h3 : ((x4 = (0 : Int)) → ((x5 ≠ (0 : Int)) ∧ (x5 ≤ (((x6 + (x0 + x1)) - x7) + x8))))) (h4 : (((0 : Int) ≤ x2) ∧ (x2 ≤ (131072 : Int)))) (h5 : (((0 : Int) ≤ x8) ∧ (x8 ≤ (65536 : Int)))) (h6 : (((0 : Int) ≤ x7) ∧ (x7 ≤ (65536 : Int)))) (h7 : (((0 : Int) ≤ x6) ∧ (x6 ≤ (65536 : Int)))) (h8 : (((0 : Int) ≤ x3) ∧ (x3 ≤ (131072 : Int)))) : (inr x5) := by omega
theorem q_1723 {x0 x1 x2 x3 x4 x5 x6 x7 x8 : Int} (h0 : ((x0 + x1) ≤ (x2 - x3))) (h1 : (x4 = (0 : Int))) (h2 : ((0 : Int) ≤ x5)) (h3 : ((x4 = (0 : Int)) → ((x5 ≠ (0 : Int)) ∧ (x5 ≤ (((x6 + (x0 + x1)) - x7) + x8))))) (h4 : (((0 : Int) ≤ x2) ∧ (x2 ≤ (131072 : Int)))) (h5 : (((0 : Int) ≤ x8) ∧ (x8 ≤ (65536 : Int)))) (h6 : (((0 : Int) ≤ x7) ∧ (x7 ≤ (65536 : Int)))) (h7 : (((0 : Int) ≤ x6) ∧ (x6 ≤ (65536 : Int)))) (h8 : (((0 : Int) ≤ x3) ∧ (x3 ≤ (131072 : Int)))) : (inr (x0 + x1)) := by omega
theorem q_1724 {x0 x1 x2 x3 x4 : Int} (h0 : (((0 : Int) ≤ x0) ∧ (x0 ≤ x1))) (h1 : ((x2 = (x0 + x3)) ∧ (x3 ≤ (x4 - x1)))) (h2 : (((0 : Int) ≤ x4) ∧ (x4 ≤ (65536 : Int)))) (h3 : (((-(2147483648 : Int)) ≤ x2) ∧ (x2 ≤ (2147483647 : Int)))) : (((-(2147483648 : Int)) ≤ (x2 + (1 : Int))) ∧ ((x2 + (1 : Int)) ≤ (2147483647 : Int))) := by omega
theorem q_1725 {x0 x1 x2 x3 x4 : Int} (h0 : ((x0 + x1) ≤ (x2 - x3))) (h1 : (x4 = (x3 + (x0 + x1)))) : (x4 ≤ x2) := by omega
theorem q_1726 {x0 x1 : Int} (h0 : (x0 < x1)) (h1 : (((1 : Int) ≤ x1) ∧ (x1 ≤ (100000 : Int)))) (h2 : ((0 : Int) ≤ x0)) : (inr (x0 + (1 : Int))) := by omega
theorem q_1727 {x0 x1 x2 x3 : Int} (h0 : (x0 = (0 : Int))) : ((x0 = (1 : Int)) → (((1 : Int) ≤ x1) ∧ (((1 : Int) ≤ x2) ∧ ((1 : Int) ≤ x3)))) := by omega
theorem q_1728 : (((0 : Int) ≤ (18 : Int)) ∧ ((18 : Int) ≤ (20 : Int))) := by omega
theorem q_1729 : (((0 : Int) ≤ (19 : Int)) ∧ ((19 : Int) ≤ (20 : Int))) := by omega
theorem q_1730 : (inr (19 : Int)) := by omega
theorem q_1731 {x0 : Int} (h0 : (((0 : Int) ≤ x0) ∧ (x0 ≤ (9 : Int)))) : (((0 : Int) ≤ x0) ∧ (x0 ≤ (31 : Int))) := by omega
theorem q_1732 {x0 : Int} (h0 : (((0 : Int) ≤ x0) ∧ (x0 ≤ (9 : Int)))) : (inr x0) := by omega
theorem q_1733 {x0 x1 x2 x3 x4 x5 x6 : Int} (h0 : (x0 = (0 : Int))) (h1 : (x1 = x2)) (h2 : (x3 = x4)) (h3 : (x5 = x6)) (h4 : (((0 : Int) ≤ x2) ∧ (x2 ≤ (9 : Int)))) (h5 : (((0 : Int) ≤ x4) ∧ (x4 ≤ (9 : Int)))) (h6 : (((0 : Int) ≤ x6) ∧ (x6 ≤ (9 : Int)))) : (((x0 = (0 : Int)) ∧ (((0 : Int) ≤ x1) ∧ ((x1 ≤ (9 : Int)) ∧ (((0 : Int) ≤ x3) ∧ ((x3 ≤ (9 : Int)) ∧ (((0 : Int) ≤ x5) ∧ ((x5 ≤ (9 : Int)) ∧ (((x2 + x4) + x6) = ((x1 + x3) + x5))))))))) ∨ ((x0 ≠ (0 : Int)) ∧ (((x2 + x4) + x6) = (0 : Int)))) := by omega
theorem q_1734 {x0 x1 x2 : Int} (h0 : (((0 : Int) ≤ x0) ∧ (x0 ≤ (9 : Int)))) (h1 : (((0 : Int) ≤ x1) ∧ (x1 ≤ (9 : Int)))) (h2 : (((0 : Int) ≤ x2) ∧ (x2 ≤ (9 : Int)))) : (inr ((x0 + x1) + x2)) := by omega
theorem q_1735 {x0 x1 x2 x3 : Int} (h0 : (x0 ≠ (0 : Int))) : (((x0 = (0 : Int)) ∧ (((0 : Int) ≤ x1) ∧ ((x1 ≤ (9 : Int)) ∧ (((0 : Int) ≤ x2) ∧ ((x2 ≤ (9 : Int)) ∧ (((0 : Int) ≤ x3) ∧ ((x3 ≤ (9 : Int)) ∧ ((0 : Int) = ((x1 + x2) + x3))))))))) ∨ ((x0 ≠ (0 : Int)) ∧ ((0 : Int) = (0 : Int)))) := by omega
theorem q_1736 {x0 : Int} (h0 : (((1 : Int) ≤ x0) ∧ (x0 ≤ (100000 : Int)))) : (inr (x0 - (1 : Int))) := by omega
theorem q_1737 {x0 x1 : Int} (h0 : (x0 ≠ (x1 - (1 : Int)))) : (((x0 ≠ (x1 - (1 : Int))) ∧ ((0 : Int) = (0 : Int))) ∨ ((x0 = (x1 - (1 : Int))) ∧ ((0 : Int) = (1 : Int)))) := by omega
theorem q_1738 {x0 x1 : Int} (h0 : (x0 = (x1 - (1 : Int)))) : (((x0 ≠ (x1 - (1 : Int))) ∧ ((1 : Int) = (0 : Int))) ∨ ((x0 = (x1 - (1 : Int))) ∧ ((1 : Int) = (1 : Int)))) := by omega
theorem q_1739 {x0 x1 x2 : Int} (h0 : (((1 : Int) ≤ x0) ∧ (((1 : Int) ≤ x1) ∧ ((1 : Int) ≤ x2)))) : (((0 : Int) = (1 : Int)) → (((1 : Int) ≤ x0) ∧ (((1 : Int) ≤ x1) ∧ ((1 : Int) ≤ x2)))) := by omega
theorem q_1740 : (((0 : Int) ≤ (0 : Int)) ∧ ((0 : Int) ≤ (131072 : Int))) := by omega
theorem q_1741 {x0 x1 x2 : Int} (h0 : (x0 ≤ (x1 - x2))) (h1 : (((0 : Int) ≤ x0) ∧ (x0 ≤ (131072 : Int)))) (h2 : (((0 : Int) ≤ x1) ∧ (x1 ≤ (65536 : Int)))) : (((0 : Int) ≤ x0) ∧ ((x2 + (x0 - (0 : Int))) ≤ (65536 : Int))) := by omega
theorem q_1742 {x0 x1 x2 x3 : Int} (h0 : (((0 : Int) ≤ x0) ∧ (x0 ≤ x1))) (h1 : (x2 = (x1 + (x3 - (0 : Int))))) (h2 : (((0 : Int) ≤ x3) ∧ (x3 ≤ (131072 : Int)))) : (((0 : Int) ≤ x0) ∧ (x0 ≤ x2)) := by omega
theorem q_1743 {x0 x1 x2 x3 : Int} (h0 : (x0 ≤ (x1 - x2))) (h1 : (x3 = (x2 + (x0 - (0 : Int))))) (h2 : (((0 : Int) ≤ x0) ∧ (x0 ≤ (131072 : Int)))) : ((x2 ≤ x3) ∧ (x3 ≤ x1)) := by omega
theorem q_1744 {x0 : Int} (h0 : ((0 : Int) < x0)) (h1 : (((0 : Int) ≤ x0) ∧ (x0 ≤ (98047 : Int)))) : (((1 : Int) ≤ x0) ∧ (x0 ≤ (100000 : Int))) := by omega
theorem q_1745 {x0 x1 x2 x3 x4 : Int} (h0 : (((0 : Int) ≤ x0) ∧ ((x0 ≤ x1) ∧ (x1 ≤ x2)))) (h1 : ((x3 ≤ x1) ∧ ((x4 + (1 : Int)) ≤ x3))) (h2 : (((0 : Int) ≤ x3) ∧ (x3 ≤ (65536 : Int)))) : (((0 : Int) ≤ x3) ∧ ((x3 ≤ x1) ∧ (x1 ≤ x2))) := by omega
theorem q_1746 {x0 : Int} (h0 : (x0 ≤ (127 : Int))) : ((x0 = (255 : Int)) ∨ (x0 ≠ (255 : Int))) := by omega
theorem q_1747 {x0 x1 : Int} (h0 : (x0 < x1)) : (((x0 + (1 : Int)) ≤ x1) ∧ ((x0 + (1 : Int)) ≤ (x0 + (1 : Int)))) := by omega
theorem q_1748 {x0 : Int} (h0 : (x0 ≤ (127 : Int))) (h1 : (((0 : Int) ≤ x0) ∧ (x0 ≤ (255 : Int)))) : (((0 : Int) ≤ x0) ∧ (x0 ≤ (98047 : Int))) := by omega
theorem q_1749 {x0 x1 : Int} (h0 : (x0 < x1)) (h1 : (inr x1)) (h2 : (((0 : Int) ≤ x0) ∧ (x0 ≤ (65536 : Int)))) : (inr (x1 - (x0 + (1 : Int)))) := by omega
theorem q_1750 {x0 : Int} (h0 : ((127 : Int) < x0)) (h1 : (((0 : Int) ≤ x0) ∧ (x0 ≤ (255 : Int)))) : (inr x0) := by omega
theorem q_1751 {x0 : Int} (h0 : (x0 ≠ (255 : Int))) : ((x0 = (255 : Int)) ∨ (x0 ≠ (255 : Int))) := by omega
theorem q_1752 {x0 : Int} (h0 : (x0 = (255 : Int))) : ((x0 = (255 : Int)) ∨ (x0 ≠ (255 : Int))) := by omega
theorem q_1753 {x0 x1 : Int} (h0 : ((127 : Int) < x0)) (h1 : (((0 : Int) ≤ x1) ∧ (x1 ≤ (255 : Int)))) (h2 : (((0 : Int) ≤ x0) ∧ (x0 ≤ (255 : Int)))) : (((0 : Int) ≤ (((256 : Int) * (x0 - (128 : Int))) + x1)) ∧ ((((256 : Int) * (x0 - (128 : Int))) + x1) ≤ (98047 : Int))) := by omega
theorem q_1754 {x0 x1 : Int} (h0 : ((127 : Int) < x0)) (h1 : (((0 : Int) ≤ x1) ∧ (x1 ≤ (255 : Int)))) (h2 : (((0 : Int) ≤ x0) ∧ (x0 ≤ (255 : Int)))) : (inr (((256 : Int) * (x0 - (128 : Int))) + x1)) := by omega
theorem q_1755 {x0 : Int} (h0 : (((0 : Int) ≤ x0) ∧ (x0 ≤ (65536 : Int)))) : (inr (x0 + (1 : Int))) := by omega
theorem q_1756 {x0 x1 x2 : Int} (h0 : (((0 : Int) ≤ x0) ∧ ((x0 ≤ x1) ∧ (x1 ≤ x2)))) (h1 : (((0 : Int) ≤ x2) ∧ (x2 ≤ (65536 : Int)))) : (((0 : Int) ≤ x1) ∧ (x1 ≤ (65536 : Int))) := by omega
theorem q_1757 {x0 : Int} (h0 : (x0 ≠ (255 : Int))) : (((x0 ≠ (255 : Int)) ∧ ((1 : Int) = (1 : Int))) ∨ ((x0 = (255 : Int)) ∧ ((1 : Int) = (2 : Int)))) := by omega
theorem q_1758 {x0 : Int} (h0 : (x0 = (255 : Int))) : (((x0 ≠ (255 : Int)) ∧ ((2 : Int) = (1 : Int))) ∨ ((x0 = (255 : Int)) ∧ ((2 : Int) = (2 : Int)))) := by omega
theorem q_1759 {x0 x1 x2 x3 : Int} (h0 : (x0 ≤ x1)) (h1 : (((0 : Int) ≤ x2) ∧ ((x2 ≤ x0) ∧ (x0 ≤ x3)))) (h2 : (((0 : Int) ≤ x1) ∧ (x1 ≤ (65536 : Int)))) : (((0 : Int) ≤ x0) ∧ (x0 ≤ (65536 : Int))) := by omega
theorem q_1760 {x0 x1 : Int} (h0 : (((0 : Int) ≤ x0) ∧ (x0 ≤ x1))) (h1 : (((0 : Int) ≤ x1) ∧ (x1 ≤ (65536 : Int)))) : (((-(2147483648 : Int)) ≤ (x0 + (1 : Int))) ∧ ((x0 + (1 : Int)) ≤ (2147483647 : Int))) := by omega
theorem q_1761 {x0 x1 : Int} (h0 : ((x0 + (3 : Int)) ≤ x1)) (h1 : (((0 : Int) ≤ x1) ∧ (x1 ≤ (65536 : Int)))) (h2 : (((0 : Int) ≤ x0) ∧ (x0 ≤ (65536 : Int)))) : (((0 : Int) ≤ x0) ∧ (((0 : Int) ≤ (3 : Int)) ∧ (((3 : Int) ≤ (8 : Int)) ∧ ((x0 + (3 : Int)) ≤ (65536 : Int))))) := by omega
theorem q_1762 {x0 : Int} : (inr ((x0 / (2 : Int)) % (4 : Int))) := by omega
theorem q_1763 {x0 x1 : Int} (h0 : ((x0 + (3 : Int)) ≤ x1)) (h1 : (((0 : Int) ≤ x1) ∧ (x1 ≤ (65536 : Int)))) (h2 : (((0 : Int) ≤ x0) ∧ (x0 ≤ (65536 : Int)))) : (((0 : Int) ≤ (x0 + (3 : Int))) ∧ ((x0 + (3 : Int)) ≤ (65536 : Int))) := by omega
theorem q_1764 {x0 x1 x2 x3 : Int} (h0 : ((x0 ≤ x1) ∧ (x1 ≤ x2))) (h1 : (x3 ≤ x1)) : ((x3 ≤ x1) ∧ (x1 ≤ x2)) := by omega
theorem q_1765 {x0 : Int} : ((x0 + (3 : Int)) = (x0 + (3 : Int))) := by omega
theorem q_1766 {x0 : Int} : (((0 : Int) ≤ (0 : Int)) ∨ ((0 : Int) ≤ (x0 / (8 : Int)))) := by omega
theorem q_1767 {x0 x1 x2 x3 : Int} (h0 : (((0 : Int) ≤ x0) ∧ (x0 ≤ x1))) (h1 : ((0 : Int) ≤ x2)) (h2 : (x3 = (x1 + x2))) : (((0 : Int) ≤ x0) ∧ (x0 ≤ x3)) := by omega
theorem q_1768 {x0 x1 x2 : Int} (h0 : ((0 : Int) ≤ x0)) (h1 : (x1 = (x2 + x0))) : (x2 ≤ x1) := by omega
theorem q_1769 {x0 x1 x2 x3 x4 : Int} (h0 : ((x0 / (8 : Int)) ≤ (x1 - x2))) (h1 : (x3 < (x0 / (8 : Int)))) (h2 : (x4 = (x2 + x3))) (h3 : (((0 : Int) ≤ x4) ∧ (x4 ≤ (65536 : Int)))) (h4 : (((0 : Int) ≤ x1) ∧ (x1 ≤ (65536 : Int)))) : (((0 : Int) ≤ x4) ∧ (x4 < ((65536 : Nat) : Int))) := by omega
theorem q_1770 {x0 x1 x2 x3 x4 : Int} (h0 : ((x0 / (8 : Int)) ≤ (x1 - x2))) (h1 : (x3 < (x0 / (8 : Int)))) (h2 : (x4 = (x2 + x3))) (h3 : (((0 : Int) ≤ x4) ∧ (x4 ≤ (65536 : Int)))) (h4 : (((0 : Int) ≤ x1) ∧ (x1 ≤ (65536 : Int)))) : (((0 : Int) ≤ (x4 + (1 : Int))) ∧ ((x4 + (1 : Int)) ≤ (65536 : Int))) := by omega
theorem q_1771 {x0 x1 : Int} (h0 : (x0 < (x1 / (8 : Int)))) : (((x0 + (1 : Int)) ≤ (0 : Int)) ∨ ((x0 + (1 : Int)) ≤ (x1 / (8 : Int)))) := by omega
theorem q_1772 {x0 x1 x2 : Int} (h0 : ((0 : Int) ≤ x0)) (h1 : (x1 = (x2 + x0))) (h2 : (((0 : Int) ≤ x1) ∧ (x1 ≤ (65536 : Int)))) (h3 : (((0 : Int) ≤ x2) ∧ (x2 ≤ (65536 : Int)))) : (inr (x0 + (1 : Int))) := by omega
theorem q_1773 {x0 x1 : Int} : (((x0 / (8 : Int)) - (x1 + (1 : Int))) < ((x0 / (8 : Int)) - x1)) := by omega
theorem q_1774 {x0 x1 : Int} (h0 : (x0 < (x1 / (8 : Int)))) : ((0 : Int) < ((x1 / (8 : Int)) - x0)) := by omega
theorem q_1775 {x0 x1 x2 x3 : Int} (h0 : (((x0 / (2 : Int)) % (4 : Int)) ≠ (1 : Int))) (h1 : ((x1 + (3 : Int)) ≤ x2)) (h2 : (((0 : Int) ≤ x2) ∧ (x2 ≤ (65536 : Int)))) (h3 : (((0 : Int) ≤ x1) ∧ (x1 ≤ (65536 : Int)))) : (((((x0 / (2 : Int)) % (4 : Int)) ≠ (1 : Int)) ∧ (((0 : Int) ≤ (x1 + (3 : Int))) ∧ (((x1 + (3 : Int)) ≤ (65536 : Int)) ∧ (((x1 + (3 : Int)) + x3) = ((x1 + (3 : Int)) + x3))))) ∨ ((((x0 / (2 : Int)) % (4 : Int)) = (1 : Int)) ∧ (((0 : Int) ≤ (x1 + (3 : Int))) ∧ (((x1 + (3 : Int)) ≤ (65536 : Int)) ∧ (((x1 + (3 : Int)) + x3) = (x1 + (3 : Int))))))) := by omega
theorem q_1776 {x0 x1 x2 x3 : Int} (h0 : ((0 : Int) ≤ x0)) (h1 : (x1 = (x2 + x0))) (h2 : (((0 : Int) ≤ x1) ∧ (x1 ≤ (65536 : Int)))) (h3 : (((0 : Int) ≤ x3) ∧ (x3 ≤ (65536 : Int)))) (h4 : (((0 : Int) ≤ x2) ∧ (x2 ≤ (65536 : Int)))) : (inr ((x3 + (3 : Int)) + x0)) := by omega
theorem q_1777 {x0 x1 x2 x3 : Int} (h0 : (((x0 / (2 : Int)) % (4 : Int)) = (1 : Int))) (h1 : ((x1 + (3 : Int)) ≤ x2)) (h2 : ((x1 + (3 : Int)) = (x1 + (3 : Int)))) (h3 : (((0 : Int) ≤ x2) ∧ (x2 ≤ (65536 : Int)))) (h4 : (((0 : Int) ≤ x1) ∧ (x1 ≤ (65536 : Int)))) : (((((x0 / (2 : Int)) % (4 : Int)) ≠ (1 : Int)) ∧ (((0 : Int) ≤ (x1 + (3 : Int))) ∧ (((x1 + (3 : Int)) ≤ (65536 : Int)) ∧ ((x1 + (3 : Int)) = ((x1 + (3 : Int)) + x3))))) ∨ ((((x0 / (2 : Int)) % (4 : Int)) = (1 : Int)) ∧ (((0 : Int) ≤ (x1 + (3 : Int))) ∧ (((x1 + (3 : Int)) ≤ (65536 : Int)) ∧ ((x1 + (3 : Int)) = (x1 + (3 : Int))))))) := by omega
theorem q_1778 {x0 : Int} (h0 : (((0 : Int) ≤ x0) ∧ (x0 ≤ (65536 : Int)))) : (inr (x0 + (3 : Int))) := by omega
theorem q_1779 {x0 x1 x2 : Int} (h0 : ((x0 + (3 : Int)) ≤ x1)) : ((x2 = (1 : Int)) → (((x0 + (3 : Int)) ≤ (x0 + (3 : Int))) ∧ ((x0 + (3 : Int)) ≤ x1))) := by omega
theorem q_1780 {x0 x1 x2 x3 : Int} (h0 : (x0 ≠ (0 : Int))) (h1 : (inr x1)) (h2 : ((x0 = (0 : Int)) ∨ (x0 = (1 : Int)))) (h3 : ((x0 = (1 : Int)) → (((x2 + (3 : Int)) + x1) ≤ x3))) (h4 : (((0 : Int) ≤ x3) ∧ (x3 ≤ (65536 : Int)))) (h5 : (((0 : Int) ≤ x2) ∧ (x2 ≤ (65536 : Int)))) : (inr ((x2 + (3 : Int)) + x1)) := by omega
theorem q_1781 {x0 x1 x2 x3 : Int} (h0 : (x0 ≠ (0 : Int))) (h1 : ((x0 = (0 : Int)) ∨ (x0 = (1 : Int)))) (h2 : ((x0 = (1 : Int)) → (((1 : Int) ≤ x1) ∧ (((1 : Int) ≤ x2) ∧ ((1 : Int) ≤ x3))))) : (((1 : Int) ≤ x1) ∧ (((1 : Int) ≤ x2) ∧ ((1 : Int) ≤ x3))) := by omega
theorem q_1782 {x0 x1 x2 : Int} (h0 : (((0 : Int) ≤ x0) ∧ (x0 ≤ (65536 : Int)))) (h1 : (((0 : Int) ≤ x1) ∧ (x1 ≤ (65536 : Int)))) (h2 : (((0 : Int) ≤ x2) ∧ (x2 ≤ (65536 : Int)))) : (((0 : Int) = (1 : Int)) → (((x1 + (3 : Int)) ≤ x2) ∧ (x2 ≤ x0))) := by omega
theorem q_1783 {x0 x1 x2 : Int} : (((0 : Int) = (1 : Int)) → (((1 : Int) ≤ x0) ∧ (((1 : Int) ≤ x1) ∧ ((1 : Int) ≤ x2)))) := by omega
theorem q_1784 {x0 x1 : Int} (h0 : ((x0 + (3 : Int)) ≤ x1)) : (((0 : Int) = (1 : Int)) → (((x0 + (3 : Int)) ≤ (x0 + (3 : Int))) ∧ ((x0 + (3 : Int)) ≤ x1))) := by omega
theorem q_1785 {x0 : Int} (h0 : (((x0 / (2 : Int)) % (4 : Int)) ≠ (1 : Int))) : (((((x0 / (2 : Int)) % (4 : Int)) ≠ (1 : Int)) ∧ ((x0 / (8 : Int)) = (x0 / (8 : Int)))) ∨ ((((x0 / (2 : Int)) % (4 : Int)) = (1 : Int)) ∧ ((x0 / (8 : Int)) = (1 : Int)))) := by omega
theorem q_1786 {x0 : Int} (h0 : (((x0 / (2 : Int)) % (4 : Int)) = (1 : Int))) : (((((x0 / (2 : Int)) % (4 : Int)) ≠ (1 : Int)) ∧ ((1 : Int) = (x0 / (8 : Int)))) ∨ ((((x0 / (2 : Int)) % (4 : Int)) = (1 : Int)) ∧ ((1 : Int) = (1 : Int)))) := by omega
theorem q_1787 : (((0 : Int) ≤ (6 : Int)) ∧ ((6 : Int) ≤ (20 : Int))) := by omega
theorem q_1788 {x0 x1 x2 : Int} (h0 : ((x0 + (3 : Int)) ≤ x1)) (h1 : (x2 = (0 : Int))) : ((x2 = (1 : Int)) → (((x0 + (3 : Int)) ≤ x0) ∧ (x0 ≤ x1))) := by omega
theorem q_1789 : (((0 : Int) ≤ (5 : Int)) ∧ ((5 : Int) ≤ (20 : Int))) := by omega
theorem q_1790 {x0 : Int} : (((2 : Int) < (0 : Int)) → (x0 = (8 : Int))) := by omega
theorem q_1791 {x0 : Int} : (((1 : Int) < (0 : Int)) → (x0 = (4 : Int))) := by omega
theorem q_1792 {x0 : Int} : (((0 : Int) < (0 : Int)) → (x0 = (1 : Int))) := by omega
theorem q_1793 : (((0 : Int) ≤ (0 : Int)) ∨ ((0 : Int) ≤ (3 : Int))) := by omega
theorem q_1794 {x0 : Int} (h0 : (((0 : Int) ≤ x0) ∧ (x0 ≤ (1 : Int)))) : (inr x0) := by omega
theorem q_1795 : (((0 : Int) ≤ (0 : Int)) ∨ ((0 : Int) ≤ (192 : Int))) := by omega
theorem q_1796 : (inr (192 : Int)) := by omega
theorem q_1797 {x0 x1 : Int} : (((2 : Int) < (0 : Int)) → (((1 : Int) ≤ x0) ∧ (x0 = x1))) := by omega
theorem q_1798 {x0 x1 : Int} : (((1 : Int) < (0 : Int)) → (((1 : Int) ≤ x0) ∧ (x0 = x1))) := by omega
theorem q_1799 {x0 x1 : Int} : (((0 : Int) < (0 : Int)) → (((1 : Int) ≤ x0) ∧ (x0 = x1))) := by omega
theorem q_1800 {x0 x1 x2 x3 x4 x5 x6 : Int} (h0 : ((3 : Int) ≤ x0)) (h1 : (((0 : Int) < x0) → (((1 : Int) ≤ x1) ∧ (x1 = x2)))) (h2 : (((1 : Int) < x0) → (((1 : Int) ≤ x3) ∧ (x3 = x4)))) (h3 : (((2 : Int) < x0) → (((1 : Int) ≤ x5) ∧ (x5 = x6)))) : (((1 : Int) ≤ x1) ∧ (((1 : Int) ≤ x3) ∧ ((1 : Int) ≤ x5))) := by omega
theorem q_1801 {x0 : Int} (h0 : (x0 < (3 : Int))) (h1 : ((0 : Int) ≤ x0)) : (((0 : Int) ≤ x0) ∧ (x0 < ((3 : Nat) : Int))) := by omega
theorem q_1802 {x0 : Int} (h0 : (x0 < (3 : Int))) (h1 : ((0 : Int) ≤ x0)) : (((0 : Int) ≤ x0) ∧ (x0 ≤ (2 : Int))) := by omega
theorem q_1803 {x0 : Int} (h0 : (x0 < (3 : Int))) : (((x0 + (1 : Int)) ≤ (0 : Int)) ∨ ((x0 + (1 : Int)) ≤ (3 : Int))) := by omega
theorem q_1804 {x0 : Int} (h0 : (x0 < (3 : Int))) (h1 : ((0 : Int) ≤ x0)) : (inr (x0 + (1 : Int))) := by omega
theorem q_1805 {x0 : Int} (h0 : (x0 < (192 : Int))) (h1 : ((0 : Int) ≤ x0)) : (((0 : Int) ≤ x0) ∧ (x0 < ((192 : Nat) : Int))) := by omega
theorem q_1806 {x0 : Int} (h0 : (x0 < (192 : Int))) : (((x0 + (1 : Int)) ≤ (0 : Int)) ∨ ((x0 + (1 : Int)) ≤ (192 : Int))) := by omega
theorem q_1807 {x0 : Int} (h0 : (x0 < (192 : Int))) (h1 : ((0 : Int) ≤ x0)) : (inr (x0 + (1 : Int))) := by omega
theorem q_1808 {x0 : Int} : (((192 : Int) - (x0 + (1 : Int))) < ((192 : Int) - x0)) := by omega
theorem q_1809 {x0 : Int} (h0 : (x0 < (192 : Int))) : ((0 : Int) < ((192 : Int) - x0)) := by omega
theorem q_1810 {x0 x1 x2 x3 : Int} (h0 : ((3 : Int) ≤ x0)) (h1 : (((0 : Int) < x0) → (x1 = (1 : Int)))) (h2 : (((1 : Int) < x0) → (x2 = (4 : Int)))) (h3 : (((2 : Int) < x0) → (x3 = (8 : Int)))) : (((1 : Int) ≤ x1) ∧ (((1 : Int) ≤ x2) ∧ ((1 : Int) ≤ x3))) := by omega
theorem q_1811 : (((-(1 : Int)) ≤ (-(1 : Int))) ∧ ((-(1 : Int)) ≤ (9 : Int))) := by omega
theorem q_1812 {x0 : Int} (h0 : (x0 < (3 : Int))) (h1 : ((0 : Int) ≤ x0)) : (((-(9223372036854775808 : Int)) ≤ ((4 : Int) * x0)) ∧ (((4 : Int) * x0) ≤ (9223372036854775807 : Int))) := by omega
theorem q_1813 : (((-(9223372036854775808 : Int)) ≤ (1 : Int)) ∧ ((1 : Int) ≤ (9223372036854775807 : Int))) := by omega
theorem q_1814 {x0 : Int} (h0 : (x0 = (0 : Int))) (h1 : ((0 : Int) ≤ x0)) : (((0 : Int) ≤ x0) ∧ (x0 < ((3 : Nat) : Int))) := by omega
theorem q_1815 {x0 : Int} (h0 : (x0 = (0 : Int))) : (((x0 + (1 : Int)) ≤ (0 : Int)) ∨ ((x0 + (1 : Int)) ≤ (3 : Int))) := by omega
theorem q_1816 {x0 : Int} (h0 : (x0 = (0 : Int))) : ((0 : Int) ≤ (x0 + (1 : Int))) := by omega
theorem q_1817 {x0 : Int} (h0 : (x0 = (0 : Int))) : (inr (x0 + (1 : Int))) := by omega
theorem q_1818 {x0 : Int} (h0 : (x0 = (0 : Int))) : ((0 : Int) < ((3 : Int) - x0)) := by omega
theorem q_1819 {x0 x1 : Int} (h0 : ((x0 + (4 : Int)) ≤ x1)) (h1 : (((0 : Int) ≤ x1) ∧ (x1 ≤ (65536 : Int)))) (h2 : (((0 : Int) ≤ x0) ∧ (x0 ≤ (65536 : Int)))) : (((0 : Int) ≤ (x0 + (4 : Int))) ∧ ((x0 + (4 : Int)) ≤ (65536 : Int))) := by omega
theorem q_1820 : (((0 : Int) ≤ (1 : Int)) ∧ ((1 : Int) ≤ (1000000 : Int))) := by omega
theorem q_1821 {x0 x1 x2 : Int} (h0 : (x0 ≠ (0 : Int))) (h1 : ((x0 = (0 : Int)) ∨ (x0 = (1 : Int)))) (h2 : ((x0 = (1 : Int)) → (((x1 + (4 : Int)) + (1 : Int)) ≤ x2))) (h3 : (((0 : Int) ≤ x2) ∧ (x2 ≤ (65536 : Int)))) (h4 : (((0 : Int) ≤ x1) ∧ (x1 ≤ (65536 : Int)))) : (((0 : Int) ≤ (x1 + (4 : Int))) ∧ ((x1 + (4 : Int)) < ((65536 : Nat) : Int))) := by omega
theorem q_1822 {x0 : Int} (h0 : (((0 : Int) ≤ x0) ∧ (x0 ≤ (255 : Int)))) : ((inr (x0 / (8 : Int))) ∧ ((0 : Int) ≤ (x0 / (8 : Int)))) := by omega
theorem q_1823 {x0 : Int} : (inr ((x0 / (8 : Int)) % (2 : Int))) := by omega
theorem q_1824 {x0 x1 x2 : Int} (h0 : (x0 ≠ (0 : Int))) (h1 : ((x0 = (0 : Int)) ∨ (x0 = (1 : Int)))) (h2 : ((x0 = (1 : Int)) → (((x1 + (4 : Int)) + (1 : Int)) ≤ x2))) (h3 : (((0 : Int) ≤ x2) ∧ (x2 ≤ (65536 : Int)))) (h4 : (((0 : Int) ≤ x1) ∧ (x1 ≤ (65536 : Int)))) : (((0 : Int) ≤ ((x1 + (4 : Int)) + (1 : Int))) ∧ (((x1 + (4 : Int)) + (1 : Int)) ≤ (65536 : Int))) := by omega
theorem q_1825 {x0 : Int} (h0 : (((0 : Int) ≤ x0) ∧ (x0 ≤ (255 : Int)))) : ((inr (x0 / (32 : Int))) ∧ ((0 : Int) ≤ (x0 / (32 : Int)))) := by omega
theorem q_1826 {x0 : Int} (h0 : (((0 : Int) ≤ x0) ∧ (x0 ≤ (4 : Int)))) : (((0 : Int) ≤ x0) ∧ (x0 ≤ (1000000 : Int))) := by omega
theorem q_1827 {x0 x1 x2 x3 : Int} (h0 : (x0 ≠ (0 : Int))) (h1 : (((0 : Int) ≤ x1) ∧ (x1 ≤ (4 : Int)))) (h2 : ((x0 = (0 : Int)) ∨ (x0 = (1 : Int)))) (h3 : ((x0 = (1 : Int)) → ((x2 + x1) ≤ x3))) (h4 : (((0 : Int) ≤ x3) ∧ (x3 ≤ (65536 : Int)))) (h5 : (((0 : Int) ≤ x2) ∧ (x2 ≤ (65536 : Int)))) : (((0 : Int) ≤ x2) ∧ (((0 : Int) ≤ x1) ∧ ((x1 ≤ (8 : Int)) ∧ ((x2 + x1) ≤ (65536 : Int))))) := by omega
theorem q_1828 {x0 x1 : Int} (h0 : (((0 : Int) ≤ x0) ∧ (x0 ≤ (4 : Int)))) (h1 : (((0 : Int) ≤ x1) ∨ (x0 = (8 : Int)))) (h2 : ((x0 ≤ (4 : Int)) → (x1 ≤ (4294967295 : Int)))) (h3 : ((x0 ≤ (5 : Int)) → (x1 ≤ (1099511627775 : Int)))) : (((0 : Int) ≤ x1) ∧ (x1 < (4294967296 : Int))) := by omega
theorem q_1829 {x0 x1 x2 x3 : Int} (h0 : (x0 ≠ (0 : Int))) (h1 : (((0 : Int) ≤ x1) ∧ (x1 ≤ (4 : Int)))) (h2 : ((x0 = (0 : Int)) ∨ (x0 = (1 : Int)))) (h3 : ((x0 = (1 : Int)) → ((x2 + x1) ≤ x3))) (h4 : (((0 : Int) ≤ x3) ∧ (x3 ≤ (65536 : Int)))) (h5 : (((0 : Int) ≤ x2) ∧ (x2 ≤ (65536 : Int)))) : (((0 : Int) ≤ (x2 + x1)) ∧ ((x2 + x1) ≤ (65536 : Int))) := by omega
theorem q_1830 : ((inr (64 : Int)) ∧ ((0 : Int) < (64 : Int))) := by omega
theorem q_1831 {x0 : Int} (h0 : (((0 : Int) ≤ x0) ∧ (x0 ≤ (8 : Int)))) : (((0 : Int) ≤ x0) ∧ (x0 ≤ (1000000 : Int))) := by omega
theorem q_1832 {x0 x1 x2 x3 x4 : Int} (h0 : (x0 ≠ (0 : Int))) (h1 : (((0 : Int) ≤ x1) ∧ (x1 ≤ (4 : Int)))) (h2 : (((0 : Int) ≤ x2) ∧ (x2 ≤ (8 : Int)))) (h3 : ((x0 = (0 : Int)) ∨ (x0 = (1 : Int)))) (h4 : ((x0 = (1 : Int)) → (((x3 + x1) + x2) ≤ x4))) (h5 : (((0 : Int) ≤ x4) ∧ (x4 ≤ (65536 : Int)))) (h6 : (((0 : Int) ≤ x3) ∧ (x3 ≤ (65536 : Int)))) : (((0 : Int) ≤ (x3 + x1)) ∧ (((0 : Int) ≤ x2) ∧ ((x2 ≤ (8 : Int)) ∧ (((x3 + x1) + x2) ≤ (65536 : Int))))) := by omega
theorem q_1833 {x0 x1 : Int} (h0 : (((0 : Int) ≤ x0) ∧ (x0 ≤ (4 : Int)))) (h1 : (((0 : Int) ≤ x1) ∧ (x1 ≤ (65536 : Int)))) : (inr (x1 + x0)) := by omega
theorem q_1834 {x0 x1 x2 x3 x4 : Int} (h0 : (x0 ≠ (0 : Int))) (h1 : ((x0 = (0 : Int)) ∨ (x0 = (1 : Int)))) (h2 : ((x0 = (1 : Int)) → (((x1 + x2) + x3) ≤ x4))) : (x3 ≤ (x4 - (x1 + x2))) := by omega
theorem q_1835 {x0 x1 : Int} (h0 : ((x0 ≤ (2 : Int)) → (x1 ≤ (65535 : Int)))) (h1 : ((x0 ≤ (5 : Int)) → (x1 ≤ (1099511627775 : Int)))) : ((x0 = (2 : Int)) → (x1 ≤ (65535 : Int))) := by omega
theorem q_1836 {x0 x1 x2 x3 : Int} (h0 : (x0 ≤ (x1 - (x2 + x3)))) (h1 : (((0 : Int) ≤ x3) ∧ (x3 ≤ (4 : Int)))) (h2 : (((0 : Int) ≤ x0) ∧ (x0 ≤ (8 : Int)))) (h3 : (((0 : Int) ≤ x1) ∧ (x1 ≤ (65536 : Int)))) (h4 : (((0 : Int) ≤ x2) ∧ (x2 ≤ (65536 : Int)))) : (((0 : Int) ≤ ((x2 + x3) + x0)) ∧ (((x2 + x3) + x0) ≤ (65536 : Int))) := by omega
theorem q_1837 {x0 x1 x2 x3 x4 x5 : Int} (h0 : (((0 : Int) ≤ x0) ∧ (x0 ≤ x1))) (h1 : ((((x1 + (4 : Int)) + (1 : Int)) ≤ x2) ∧ (x2 ≤ x3))) (h2 : (((0 : Int) ≤ x4) ∧ (x4 ≤ (4 : Int)))) (h3 : (((0 : Int) ≤ x5) ∧ (x5 ≤ (8 : Int)))) : (((0 : Int) ≤ x0) ∧ (x0 ≤ ((x2 + x4) + x5))) := by omega
theorem q_1838 {x0 x1 x2 : Int} (h0 : (((1 : Int) ≤ x0) ∧ (((1 : Int) ≤ x1) ∧ ((1 : Int) ≤ x2)))) : (((0 : Int) = (1 : Int)) ∨ (((1 : Int) ≤ x0) ∧ (((1 : Int) ≤ x1) ∧ ((1 : Int) ≤ x2)))) := by omega
theorem q_1839 {x0 x1 : Int} (h0 : (x0 ≤ x1)) : ((x0 ≤ x0) ∧ (x0 ≤ x1)) := by omega
theorem q_1840 {x0 x1 x2 x3 : Int} (h0 : (x0 ≤ (x1 - (x2 + x3)))) : ((((x2 + x3) + x0) ≤ ((x2 + x3) + x0)) ∧ (((x2 + x3) + x0) ≤ x1)) := by omega
theorem q_1841 {x0 x1 x2 x3 : Int} (h0 : (((0 : Int) ≤ x0) ∧ (x0 ≤ x1))) (h1 : ((x1 ≤ x2) ∧ (x2 ≤ x3))) : (((0 : Int) ≤ x0) ∧ (((1 : Int) = (0 : Int)) ∨ (x0 ≤ x2))) := by omega
theorem q_1842 {x0 x1 : Int} (h0 : (((0 : Int) ≤ x0) ∧ (x0 ≤ x1))) : (((0 : Int) ≤ (x0 + (1 : Int))) ∧ ((x0 + (1 : Int)) ≤ (x0 + (1 : Int)))) := by omega
theorem q_1843 {x0 x1 x2 x3 x4 x5 x6 : Int} (h0 : (x0 = (0 : Int))) (h1 : ((((x1 + x2) + x0) ≤ x3) ∧ (x3 ≤ x4))) (h2 : ((((x5 + (4 : Int)) + (1 : Int)) ≤ x1) ∧ (x1 ≤ x4))) (h3 : (((0 : Int) ≤ x2) ∧ (x2 ≤ (4 : Int)))) (h4 : ((x3 ≤ x6) ∧ (x6 ≤ x4))) (h5 : (((0 : Int) ≤ x5) ∧ (x5 ≤ (65536 : Int)))) (h6 : (((0 : Int) ≤ x6) ∧ (x6 ≤ (65536 : Int)))) : (((1 : Int) = (1 : Int)) → (((x5 + (4 : Int)) ≤ x6) ∧ (x6 ≤ x4))) := by omega
theorem q_1844 {x0 x1 : Int} (h0 : (x0 ≤ x1)) (h1 : (((0 : Int) ≤ x0) ∧ (x0 ≤ (65536 : Int)))) (h2 : (((0 : Int) ≤ x1) ∧ (x1 ≤ (65536 : Int)))) : (inr (x1 - x0)) := by omega
theorem q_1845 {x0 x1 : Int} (h0 : (x0 ≤ x1)) (h1 : (((0 : Int) ≤ x0) ∧ (x0 ≤ (65536 : Int)))) (h2 : (((0 : Int) ≤ x1) ∧ (x1 ≤ (65536 : Int)))) : (inrJ (x1 - x0)) := by omega
theorem q_1846 {x0 x1 x2 x3 x4 x5 x6 : Int} (h0 : ((((x0 + x1) + x2) ≤ x3) ∧ (x3 ≤ x4))) (h1 : ((((x5 + (4 : Int)) + (1 : Int)) ≤ x0) ∧ (x0 ≤ x4))) (h2 : (((0 : Int) ≤ x1) ∧ (x1 ≤ (4 : Int)))) (h3 : (((0 : Int) ≤ x2) ∧ (x2 ≤ (8 : Int)))) (h4 : ((x3 ≤ x6) ∧ (x6 ≤ x4))) (h5 : (((0 : Int) ≤ x5) ∧ (x5 ≤ (65536 : Int)))) (h6 : (((0 : Int) ≤ x6) ∧ (x6 ≤ (65536 : Int)))) : (((1 : Int) = (1 : Int)) → (((x5 + (4 : Int)) ≤ x6) ∧ (x6 ≤ x4))) := by omega
theorem q_1847 {x0 x1 x2 x3 x4 : Int} (h0 : ((((x0 + x1) + x2) ≤ x3) ∧ (x3 ≤ x4))) (h1 : (((0 : Int) ≤ x1) ∧ (x1 ≤ (4 : Int)))) (h2 : (((0 : Int) ≤ x2) ∧ (x2 ≤ (8 : Int)))) (h3 : (((0 : Int) ≤ x0) ∧ (x0 ≤ (65536 : Int)))) (h4 : (((0 : Int) ≤ x3) ∧ (x3 ≤ (65536 : Int)))) : (((0 : Int) ≤ (x0 + x1)) ∧ ((x0 + x1) ≤ (65536 : Int))) := by omega
theorem q_1848 {x0 x1 x2 : Int} (h0 : (((0 : Int) ≤ x0) ∧ (x0 ≤ x1))) : (((0 : Int) ≤ x0) ∧ (((0 : Int) = (0 : Int)) ∨ (x0 ≤ x2))) := by omega
theorem q_1849 {x0 x1 x2 x3 : Int} (h0 : ((x0 ≤ x1) ∧ (x1 ≤ x2))) (h1 : (((0 : Int) ≤ x3) ∧ (x3 ≤ (65536 : Int)))) (h2 : (((0 : Int) ≤ x1) ∧ (x1 ≤ (65536 : Int)))) : (((0 : Int) = (1 : Int)) → (((x3 + (4 : Int)) ≤ x1) ∧ (x1 ≤ x2))) := by omega
theorem q_1850 {x0 : Int} : (inr ((x0 / (4 : Int)) % (2 : Int))) := by omega
theorem q_1851 {x0 x1 x2 x3 x4 : Int} (h0 : ((((x0 + x1) + x2) ≤ x3) ∧ (x3 ≤ x4))) : ((x3 ≤ x3) ∧ (x3 ≤ x4)) := by omega
theorem q_1852 : (((0 : Int) ≤ (4 : Int)) ∧ ((4 : Int) ≤ (1000000 : Int))) := by omega
theorem q_1853 {x0 x1 x2 : Int} (h0 : (x0 ≠ (0 : Int))) (h1 : ((x0 = (0 : Int)) ∨ (x0 = (1 : Int)))) (h2 : ((x0 = (1 : Int)) → ((x1 + (4 : Int)) ≤ x2))) (h3 : (((0 : Int) ≤ x2) ∧ (x2 ≤ (65536 : Int)))) (h4 : (((0 : Int) ≤ x1) ∧ (x1 ≤ (65536 : Int)))) : (((0 : Int) ≤ x1) ∧ (((0 : Int) ≤ (4 : Int)) ∧ (((4 : Int) ≤ (8 : Int)) ∧ ((x1 + (4 : Int)) ≤ (65536 : Int))))) := by omega
theorem q_1854 {x0 x1 : Int} (h0 : (x0 ≤ x1)) (h1 : (((0 : Int) ≤ x0) ∧ (x0 ≤ (65536 : Int)))) (h2 : (((0 : Int) ≤ x1) ∧ (x1 ≤ (65536 : Int)))) : (((0 : Int) ≤ x0) ∧ ((x0 ≤ x1) ∧ (x1 ≤ (65536 : Int)))) := by omega
theorem q_1855 {x0 x1 x2 : Int} (h0 : (x0 ≠ (0 : Int))) (h1 : ((x0 = (0 : Int)) ∨ (x0 = (1 : Int)))) (h2 : ((x0 = (1 : Int)) → ((x1 + (4 : Int)) ≤ x2))) (h3 : (((0 : Int) ≤ x2) ∧ (x2 ≤ (65536 : Int)))) (h4 : (((0 : Int) ≤ x1) ∧ (x1 ≤ (65536 : Int)))) : (((0 : Int) ≤ (x1 + (4 : Int))) ∧ ((x1 + (4 : Int)) ≤ (65536 : Int))) := by omega
theorem q_1856 {x0 x1 x2 : Int} (h0 : (x0 ≠ (0 : Int))) (h1 : ((x0 = (0 : Int)) ∨ (x0 = (1 : Int)))) (h2 : ((x0 = (1 : Int)) → ((x1 + (4 : Int)) ≤ x2))) : ((x1 ≤ (x1 + (4 : Int))) ∧ ((x1 + (4 : Int)) ≤ x2)) := by omega
theorem q_1857 : (((0 : Int) ≤ (8 : Int)) ∧ ((8 : Int) ≤ (20 : Int))) := by omega
theorem q_1858 {x0 x1 x2 : Int} (h0 : (((0 : Int) ≤ x0) ∧ (x0 ≤ x1))) (h1 : (x2 = (0 : Int))) : (((0 : Int) ≤ x0) ∧ ((x2 = (0 : Int)) ∨ (x0 ≤ x1))) := by omega
theorem q_1859 {x0 x1 x2 x3 x4 x5 x6 : Int} (h0 : ((((x0 + x1) + x2) ≤ x3) ∧ (x3 ≤ x4))) (h1 : (x5 = (0 : Int))) (h2 : (((0 : Int) ≤ x6) ∧ (x6 ≤ (65536 : Int)))) (h3 : (((0 : Int) ≤ x3) ∧ (x3 ≤ (65536 : Int)))) : ((x5 = (1 : Int)) → (((x6 + (4 : Int)) ≤ x3) ∧ (x3 ≤ x4))) := by omega
theorem q_1860 {x0 x1 : Int} (h0 : (((0 : Int) ≤ x0) ∧ (x0 ≤ x1))) : (((0 : Int) ≤ x0) ∧ (((0 : Int) = (0 : Int)) ∨ (x0 ≤ x1))) := by omega
theorem q_1861 {x0 x1 x2 x3 x4 x5 : Int} (h0 : ((((x0 + x1) + x2) ≤ x3) ∧ (x3 ≤ x4))) (h1 : (((0 : Int) ≤ x5) ∧ (x5 ≤ (65536 : Int)))) (h2 : (((0 : Int) ≤ x3) ∧ (x3 ≤ (65536 : Int)))) : (((0 : Int) = (1 : Int)) → (((x5 + (4 : Int)) ≤ x3) ∧ (x3 ≤ x4))) := by omega
theorem q_1862 : (((0 : Int) ≤ (3 : Int)) ∧ ((3 : Int) ≤ (1000000 : Int))) := by omega
theorem q_1863 {x0 x1 x2 : Int} (h0 : (x0 ≠ (0 : Int))) (h1 : ((x0 = (0 : Int)) ∨ (x0 = (1 : Int)))) (h2 : ((x0 = (1 : Int)) → ((x1 + (3 : Int)) ≤ x2))) (h3 : (((0 : Int) ≤ x2) ∧ (x2 ≤ (65536 : Int)))) (h4 : (((0 : Int) ≤ x1) ∧ (x1 ≤ (65536 : Int)))) : (((0 : Int) ≤ x1) ∧ (x1 < ((65536 : Nat) : Int))) := by omega
theorem q_1864 {x0 x1 x2 x3 : Int} (h0 : (x0 = (0 : Int))) (h1 : ((x0 = (1 : Int)) ∨ (((1 : Int) ≤ x1) ∧ (((1 : Int) ≤ x2) ∧ ((1 : Int) ≤ x3))))) : (((1 : Int) ≤ x1) ∧ (((1 : Int) ≤ x2) ∧ ((1 : Int) ≤ x3))) := by omega
theorem q_1865 {x0 x1 x2 : Int} (h0 : (x0 ≠ (0 : Int))) (h1 : ((x0 = (0 : Int)) ∨ (x0 = (1 : Int)))) (h2 : ((x0 = (1 : Int)) → ((x1 + (3 : Int)) ≤ x2))) : ((x1 + (3 : Int)) ≤ x2) := by omega
theorem q_1866 {x0 x1 x2 x3 x4 x5 : Int} (h0 : (x0 ≠ (0 : Int))) (h1 : (((0 : Int) ≤ x1) ∧ (x1 ≤ x2))) (h2 : ((x0 = (0 : Int)) ∨ (x0 = (1 : Int)))) (h3 : ((x0 = (1 : Int)) → (((x2 + (3 : Int)) ≤ x3) ∧ (x3 ≤ x4)))) (h4 : (x5 = (x1 + (1 : Int)))) : (((0 : Int) ≤ x5) ∧ (x5 ≤ x3)) := by omega
theorem q_1867 {x0 x1 x2 x3 : Int} (h0 : (x0 ≠ (0 : Int))) (h1 : ((x0 = (0 : Int)) ∨ (x0 = (1 : Int)))) (h2 : ((x0 = (1 : Int)) → (((1 : Int) ≤ x1) ∧ (((1 : Int) ≤ x2) ∧ ((1 : Int) ≤ x3))))) : (((0 : Int) = (1 : Int)) ∨ (((1 : Int) ≤ x1) ∧ (((1 : Int) ≤ x2) ∧ ((1 : Int) ≤ x3)))) := by omega
theorem q_1868 {x0 x1 x2 x3 : Int} (h0 : (x0 ≤ x1)) (h1 : ((x1 ≤ x2) ∧ (x2 ≤ x3))) : (x0 ≤ x2) := by omega
theorem q_1869 {x0 x1 x2 x3 : Int} (h0 : (x0 ≤ x1)) (h1 : ((x1 ≤ x2) ∧ (x2 ≤ x3))) : ((x0 ≤ x2) ∧ (x2 ≤ x3)) := by omega
theorem q_1870 {x0 x1 x2 x3 x4 x5 x6 : Int} (h0 : (x0 ≠ (0 : Int))) (h1 : ((((x1 + x2) + x3) ≤ x4) ∧ (x4 ≤ x5))) (h2 : ((x0 = (0 : Int)) ∨ (x0 = (1 : Int)))) (h3 : ((x0 = (1 : Int)) → (((x4 + (3 : Int)) ≤ x6) ∧ (x6 ≤ x5)))) : ((((x1 + x2) + x3) ≤ x6) ∧ (x6 ≤ x5)) := by omega
theorem q_1871 {x0 x1 x2 x3 : Int} (h0 : (x0 ≠ (0 : Int))) (h1 : ((x0 = (0 : Int)) ∨ (x0 = (1 : Int)))) (h2 : ((x0 = (1 : Int)) → (((x1 + (3 : Int)) ≤ x2) ∧ (x2 ≤ x3)))) : ((x3 - x2) < (x3 - x1)) := by omega
theorem q_1872 {x0 x1 x2 x3 x4 x5 : Int} (h0 : (x0 ≠ (0 : Int))) (h1 : ((((x1 + x2) + x3) ≤ x4) ∧ (x4 ≤ x5))) (h2 : ((x0 = (0 : Int)) ∨ (x0 = (1 : Int)))) (h3 : ((x0 = (1 : Int)) → ((x4 + (3 : Int)) ≤ x5))) : ((0 : Int) < (x5 - x4)) := by omega
theorem q_1873 {x0 x1 x2 x3 : Int} (h0 : (((0 : Int) ≤ x0) ∧ (x0 ≤ x1))) (h1 : (x2 = (x0 + (1 : Int)))) : (((0 : Int) ≤ x2) ∧ (((0 : Int) = (0 : Int)) ∨ (x2 ≤ x3))) := by omega
theorem q_1874 {x0 x1 x2 : Int} (h0 : (((0 : Int) ≤ x0) ∧ (x0 ≤ (65536 : Int)))) (h1 : (((0 : Int) ≤ x1) ∧ (x1 ≤ (65536 : Int)))) (h2 : (((0 : Int) ≤ x2) ∧ (x2 ≤ (65536 : Int)))) : (((0 : Int) = (1 : Int)) → (((x2 + (4 : Int)) ≤ x1) ∧ (x1 ≤ x0))) := by omega
theorem q_1875 {x0 x1 x2 : Int} : (((1 : Int) = (1 : Int)) ∨ (((1 : Int) ≤ x0) ∧ (((1 : Int) ≤ x1) ∧ ((1 : Int) ≤ x2)))) := by omega
theorem q_1876 {x0 x1 : Int} (h0 : (x0 < (0 : Int))) : (((x0 < (0 : Int)) ∧ ((131072 : Int) = (131072 : Int))) ∨ (((x0 ≥ (0 : Int)) ∧ ((x1 ≤ (131072 : Int)) ∧ ((131072 : Int) = x1))) ∨ ((x0 ≥ (0 : Int)) ∧ ((x1 > (131072 : Int)) ∧ ((131072 : Int) = (131072 : Int)))))) := by omega
theorem q_1877 : (inr (131072 : Int)) := by omega
theorem q_1878 : (inrJ (131072 : Int)) := by omega
theorem q_1879 {x0 : Int} (h0 : (x0 ≠ (2 : Int))) : (((x0 ≠ (2 : Int)) ∧ ((0 : Int) = (0 : Int))) ∨ ((x0 = (2 : Int)) ∧ ((0 : Int) = (256 : Int)))) := by omega
theorem q_1880 {x0 : Int} (h0 : (x0 = (2 : Int))) : (((x0 ≠ (2 : Int)) ∧ ((256 : Int) = (0 : Int))) ∨ ((x0 = (2 : Int)) ∧ ((256 : Int) = (256 : Int)))) := by omega
theorem q_1881 : (inrJ (256 : Int)) := by omega
theorem q_1882 {x0 x1 x2 x3 : Int} (h0 : (((0 : Int) ≤ x0) ∧ (x0 ≤ x1))) : (((0 : Int) ≤ x0) ∧ (((0 : Int) = (0 : Int)) ∨ (x0 ≤ (x2 + x3)))) := by omega
theorem q_1883 {x0 x1 x2 x3 : Int} (h0 : ((((x0 + (4 : Int)) + (1 : Int)) ≤ x1) ∧ (x1 ≤ x2))) (h1 : (((0 : Int) ≤ x3) ∧ (x3 ≤ (4 : Int)))) : (((0 : Int) = (1 : Int)) → (((x0 + (4 : Int)) ≤ (x1 + x3)) ∧ ((x1 + x3) ≤ x2))) := by omega
theorem q_1884 {x0 : Int} (h0 : (((0 : Int) ≤ x0) ∧ (x0 ≤ (255 : Int)))) : (inr (x0 / (64 : Int))) := by omega
theorem q_1885 {x0 : Int} (h0 : (((0 : Int) ≤ x0) ∧ (x0 ≤ (255 : Int)))) : (((0 : Int) ≤ (x0 / (64 : Int))) ∧ ((x0 / (64 : Int)) ≤ (31 : Int))) := by omega
theorem q_1886 {x0 x1 x2 : Int} (h0 : ((x0 / (64 : Int)) ≠ (0 : Int))) : ((((x0 / (64 : Int)) = (0 : Int)) ∧ ((x1 = (1 : Int)) ∧ (x2 = (1 : Int)))) ∨ ((((x0 / (64 : Int)) = (0 : Int)) ∧ ((x1 = (0 : Int)) ∧ (x2 = (0 : Int)))) ∨ (((x0 / (64 : Int)) ≠ (0 : Int)) ∧ (x2 = x2)))) := by omega
theorem q_1887 {x0 x1 x2 : Int} (h0 : ((x0 / (64 : Int)) = (0 : Int))) (h1 : (x1 = (0 : Int))) : ((((x0 / (64 : Int)) = (0 : Int)) ∧ ((x1 = (1 : Int)) ∧ ((0 : Int) = (1 : Int)))) ∨ ((((x0 / (64 : Int)) = (0 : Int)) ∧ ((x1 = (0 : Int)) ∧ ((0 : Int) = (0 : Int)))) ∨ (((x0 / (64 : Int)) ≠ (0 : Int)) ∧ ((0 : Int) = x2)))) := by omega
theorem q_1888 : (((0 : Int) ≤ (0 : Int)) ∧ ((0 : Int) ≤ (8 : Int))) := by omega
theorem q_1889 : (((0 : Int) ≤ (1 : Int)) ∧ ((1 : Int) ≤ (8 : Int))) := by omega
theorem q_1890 {x0 x1 : Int} (h0 : (x0 = (0 : Int))) : ((x0 = (0 : Int)) ∨ ((x0 ≠ (0 : Int)) ∧ (x0 = x1))) := by omega
theorem q_1891 {x0 x1 : Int} (h0 : (x0 ≠ (0 : Int))) (h1 : (x0 = x1)) : ((x0 = (0 : Int)) ∨ ((x0 ≠ (0 : Int)) ∧ (x0 = x1))) := by omega
theorem q_1892 : (((0 : Int) ≤ (4 : Int)) ∧ ((4 : Int) ≤ (20 : Int))) := by omega
theorem q_1893 {x0 x1 x2 x3 : Int} (h0 : (((0 : Int) ≤ x0) ∧ (x0 ≤ x1))) (h1 : (x2 = (0 : Int))) : (((0 : Int) ≤ x0) ∧ ((x2 = (0 : Int)) ∨ (x0 ≤ x3))) := by omega
theorem q_1894 {x0 x1 x2 x3 : Int} (h0 : ((((x0 + (4 : Int)) + (1 : Int)) ≤ x1) ∧ (x1 ≤ x2))) : ((x3 = (1 : Int)) → (((x0 + (4 : Int)) ≤ x1) ∧ (x1 ≤ x2))) := by omega
theorem q_1895 {x0 x1 x2 : Int} (h0 : ((((x0 + (4 : Int)) + (1 : Int)) ≤ x1) ∧ (x1 ≤ x2))) : (((0 : Int) = (1 : Int)) → (((x0 + (4 : Int)) ≤ x1) ∧ (x1 ≤ x2))) := by omega
theorem q_1896 {x0 : Int} : (((0 : Int) ≤ (x0 % (4 : Int))) ∧ ((x0 % (4 : Int)) ≤ (4 : Int))) := by omega
theorem q_1897 {x0 x1 x2 : Int} (h0 : (x0 ≠ (0 : Int))) (h1 : ((x0 = (0 : Int)) ∨ (x0 = (1 : Int)))) (h2 : ((x0 = (1 : Int)) → (((x1 + (4 : Int)) + (1 : Int)) ≤ x2))) : ((((x1 + (4 : Int)) + (1 : Int)) ≤ ((x1 + (4 : Int)) + (1 : Int))) ∧ (((x1 + (4 : Int)) + (1 : Int)) ≤ x2)) := by omega
theorem q_1898 {x0 x1 x2 : Int} (h0 : (x0 ≠ (0 : Int))) (h1 : ((x0 = (0 : Int)) ∨ (x0 = (1 : Int)))) (h2 : ((x0 = (1 : Int)) → ((((x1 + (4 : Int)) + (1 : Int)) + (1 : Int)) ≤ x2))) (h3 : (((0 : Int) ≤ x2) ∧ (x2 ≤ (65536 : Int)))) (h4 : (((0 : Int) ≤ x1) ∧ (x1 ≤ (65536 : Int)))) : (((0 : Int) ≤ ((x1 + (4 : Int)) + (1 : Int))) ∧ (((x1 + (4 : Int)) + (1 : Int)) < ((65536 : Nat) : Int))) := by omega
theorem q_1899 {x0 : Int} (h0 : (((0 : Int) ≤ x0) ∧ (x0 ≤ (255 : Int)))) : (((0 : Int) ≤ ((10 : Int) + (x0 / (8 : Int)))) ∧ (((10 : Int) + (x0 / (8 : Int))) ≤ (63 : Int))) := by omega
theorem q_1900 {x0 : Int} (h0 : (((0 : Int) ≤ x0) ∧ (x0 ≤ (255 : Int)))) : (((0 : Int) ≤ ((7 : Int) + (x0 / (8 : Int)))) ∧ (((7 : Int) + (x0 / (8 : Int))) ≤ (63 : Int))) := by omega
theorem q_1901 {x0 : Int} : (inr (x0 % (8 : Int))) := by omega
theorem q_1902 {x0 x1 x2 : Int} (h0 : (x0 ≠ (0 : Int))) (h1 : ((x0 = (0 : Int)) ∨ (x0 = (1 : Int)))) (h2 : ((x0 = (1 : Int)) → ((((x1 + (4 : Int)) + (1 : Int)) + (1 : Int)) ≤ x2))) (h3 : (((0 : Int) ≤ x2) ∧ (x2 ≤ (65536 : Int)))) (h4 : (((0 : Int) ≤ x1) ∧ (x1 ≤ (65536 : Int)))) : (((0 : Int) ≤ (((x1 + (4 : Int)) + (1 : Int)) + (1 : Int))) ∧ ((((x1 + (4 : Int)) + (1 : Int)) + (1 : Int)) ≤ (65536 : Int))) := by omega
theorem q_1903 {x0 x1 x2 : Int} (h0 : (x0 ≠ (0 : Int))) (h1 : ((x0 = (0 : Int)) ∨ (x0 = (1 : Int)))) (h2 : ((x0 = (1 : Int)) → ((((x1 + (4 : Int)) + (1 : Int)) + (1 : Int)) ≤ x2))) : ((((x1 + (4 : Int)) + (1 : Int)) ≤ (((x1 + (4 : Int)) + (1 : Int)) + (1 : Int))) ∧ ((((x1 + (4 : Int)) + (1 : Int)) + (1 : Int)) ≤ x2)) := by omega
theorem q_1904 {x0 x1 : Int} (h0 : (((0 : Int) ≤ x0) ∧ (x0 ≤ x1))) : (((0 : Int) ≤ x0) ∧ (((0 : Int) = (0 : Int)) ∨ (x0 ≤ ((x1 + (4 : Int)) + (1 : Int))))) := by omega
theorem q_1905 {x0 x1 : Int} (h0 : ((x0 + (4 : Int)) ≤ x1)) : (((0 : Int) = (1 : Int)) → (((x0 + (4 : Int)) ≤ ((x0 + (4 : Int)) + (1 : Int))) ∧ (((x0 + (4 : Int)) + (1 : Int)) ≤ x1))) := by omega
theorem q_1906 {x0 : Int} : (inr ((x0 / (32 : Int)) % (2 : Int))) := by omega
theorem q_1907 {x0 : Int} (h0 : (((x0 / (32 : Int)) % (2 : Int)) ≠ (1 : Int))) : (((((x0 / (32 : Int)) % (2 : Int)) ≠ (1 : Int)) ∧ ((0 : Int) = (0 : Int))) ∨ ((((x0 / (32 : Int)) % (2 : Int)) = (1 : Int)) ∧ ((0 : Int) = (1 : Int)))) := by omega
theorem q_1908 {x0 : Int} (h0 : (((x0 / (32 : Int)) % (2 : Int)) = (1 : Int))) : (((((x0 / (32 : Int)) % (2 : Int)) ≠ (1 : Int)) ∧ ((1 : Int) = (0 : Int))) ∨ ((((x0 / (32 : Int)) % (2 : Int)) = (1 : Int)) ∧ ((1 : Int) = (1 : Int)))) := by omega
theorem q_1909 : (((0 : Int) ≤ (3 : Int)) ∧ ((3 : Int) ≤ (20 : Int))) := by omega
theorem q_1910 {x0 x1 x2 : Int} (h0 : (((0 : Int) ≤ x0) ∧ (x0 ≤ x1))) (h1 : (x2 = (0 : Int))) : (((0 : Int) ≤ x0) ∧ ((x2 = (0 : Int)) ∨ (x0 ≤ (x1 + (4 : Int))))) := by omega
theorem q_1911 {x0 x1 x2 : Int} (h0 : ((x0 + (4 : Int)) ≤ x1)) : ((x2 = (1 : Int)) → (((x0 + (4 : Int)) ≤ (x0 + (4 : Int))) ∧ ((x0 + (4 : Int)) ≤ x1))) := by omega
theorem q_1912 {x0 x1 : Int} (h0 : (((0 : Int) ≤ x0) ∧ (x0 ≤ x1))) : (((0 : Int) ≤ x0) ∧ (((0 : Int) = (0 : Int)) ∨ (x0 ≤ (x1 + (4 : Int))))) := by omega
theorem q_1913 {x0 x1 : Int} (h0 : (((0 : Int) ≤ x0) ∧ (x0 ≤ x1))) : (((0 : Int) ≤ x0) ∧ (x0 ≤ (x0 + (1 : Int)))) := by omega
theorem q_1914 {x0 x1 : Int} (h0 : ((x0 + (4 : Int)) ≤ x1)) : (((0 : Int) = (1 : Int)) → (((x0 + (4 : Int)) ≤ (x0 + (4 : Int))) ∧ ((x0 + (4 : Int)) ≤ x1))) := by omega
theorem q_1915 : (((0 : Int) ≤ (40 : Int)) ∧ (((40 : Int) ≤ (255 : Int)) ∧ (((0 : Int) ≤ (181 : Int)) ∧ (((181 : Int) ≤ (255 : Int)) ∧ (((0 : Int) ≤ (47 : Int)) ∧ (((47 : Int) ≤ (255 : Int)) ∧ (((0 : Int) ≤ (253 : Int)) ∧ ((253 : Int) ≤ (255 : Int))))))))) := by omega
theorem q_1916 {x0 x1 x2 : Int} (h0 : (x0 ≠ (0 : Int))) (h1 : ((x0 = (0 : Int)) ∨ (x0 = (1 : Int)))) (h2 : ((x0 = (1 : Int)) → ((x1 + (4 : Int)) ≤ x2))) (h3 : (((0 : Int) ≤ x2) ∧ (x2 ≤ (65536 : Int)))) (h4 : (((0 : Int) ≤ x1) ∧ (x1 ≤ (65536 : Int)))) : (((0 : Int) ≤ x1) ∧ (x1 ≤ (65532 : Int))) := by omega
theorem q_1917 : (inr (253 : Int)) := by omega
theorem q_1918 : (inr (47 : Int)) := by omega
theorem q_1919 : (inr (181 : Int)) := by omega
theorem q_1920 {x0 x1 : Int} (h0 : (x0 < x1)) (h1 : (((0 : Int) ≤ x1) ∧ (x1 ≤ (65536 : Int)))) (h2 : (((0 : Int) ≤ x0) ∧ (x0 ≤ (65536 : Int)))) : (((0 : Int) ≤ x0) ∧ (x0 < ((65536 : Nat) : Int))) := by omega
theorem q_1921 : (((0 : Int) ≤ (2 : Int)) ∧ ((2 : Int) ≤ (20 : Int))) := by omega
theorem q_1922 {x0 x1 x2 : Int} (h0 : (x0 < x1)) (h1 : (x2 = (0 : Int))) : ((x2 = (1 : Int)) → (((x0 + (4 : Int)) ≤ x0) ∧ (x0 ≤ x1))) := by omega
theorem q_1923 : (inr (95 : Int)) := by omega
theorem q_1924 {x0 : Int} (h0 : (((0 : Int) ≤ x0) ∧ (x0 ≤ (255 : Int)))) : (((0 : Int) ≤ x0) ∧ ((x0 ≤ (255 : Int)) ∧ (((0 : Int) ≤ (42 : Int)) ∧ (((42 : Int) ≤ (255 : Int)) ∧ (((0 : Int) ≤ (77 : Int)) ∧ (((77 : Int) ≤ (255 : Int)) ∧ (((0 : Int) ≤ (24 : Int)) ∧ ((24 : Int) ≤ (255 : Int))))))))) := by omega
theorem q_1925 : (inr (77 : Int)) := by omega
theorem q_1926 {x0 x1 x2 : Int} (h0 : (x0 ≠ (0 : Int))) (h1 : ((x0 = (0 : Int)) ∨ (x0 = (1 : Int)))) (h2 : ((x0 = (1 : Int)) → (((x1 + (4 : Int)) + (4 : Int)) ≤ x2))) (h3 : (((0 : Int) ≤ x2) ∧ (x2 ≤ (65536 : Int)))) (h4 : (((0 : Int) ≤ x1) ∧ (x1 ≤ (65536 : Int)))) : (((0 : Int) ≤ (x1 + (4 : Int))) ∧ (((0 : Int) ≤ (4 : Int)) ∧ (((4 : Int) ≤ (8 : Int)) ∧ (((x1 + (4 : Int)) + (4 : Int)) ≤ (65536 : Int))))) := by omega
theorem q_1927 {x0 x1 x2 : Int} (h0 : (x0 ≠ (0 : Int))) (h1 : ((x0 = (0 : Int)) ∨ (x0 = (1 : Int)))) (h2 : ((x0 = (1 : Int)) → (((x1 + (4 : Int)) + (4 : Int)) ≤ x2))) (h3 : (((0 : Int) ≤ x2) ∧ (x2 ≤ (65536 : Int)))) (h4 : (((0 : Int) ≤ x1) ∧ (x1 ≤ (65536 : Int)))) : (((0 : Int) ≤ ((x1 + (4 : Int)) + (4 : Int))) ∧ (((x1 + (4 : Int)) + (4 : Int)) ≤ (65536 : Int))) := by omega
theorem q_1928 {x0 x1 : Int} (h0 : (x0 < x1)) (h1 : (((0 : Int) ≤ x1) ∧ (x1 ≤ (65536 : Int)))) (h2 : (((0 : Int) ≤ x0) ∧ (x0 ≤ (65536 : Int)))) : (inr (x1 - ((x0 + (4 : Int)) + (4 : Int)))) := by omega
theorem q_1929 {x0 x1 : Int} (h0 : (x0 < x1)) (h1 : (((0 : Int) ≤ x1) ∧ (x1 ≤ (65536 : Int)))) (h2 : (((0 : Int) ≤ x0) ∧ (x0 ≤ (65536 : Int)))) : (inrJ (x1 - ((x0 + (4 : Int)) + (4 : Int)))) := by omega
theorem q_1930 {x0 x1 x2 : Int} (h0 : (((0 : Int) ≤ x0) ∧ (x0 ≤ x1))) (h1 : (x2 = (0 : Int))) : (((0 : Int) ≤ x0) ∧ ((x2 = (0 : Int)) ∨ (x0 ≤ ((x1 + (4 : Int)) + (4 : Int))))) := by omega
theorem q_1931 {x0 x1 x2 : Int} (h0 : (x0 < x1)) (h1 : (x2 = (0 : Int))) : ((x2 = (1 : Int)) → (((x0 + (4 : Int)) ≤ ((x0 + (4 : Int)) + (4 : Int))) ∧ (((x0 + (4 : Int)) + (4 : Int)) ≤ x1))) := by omega
theorem q_1932 {x0 x1 : Int} (h0 : (x0 < x1)) : (((0 : Int) = (1 : Int)) → (((x0 + (4 : Int)) ≤ (x0 + (4 : Int))) ∧ ((x0 + (4 : Int)) ≤ x1))) := by omega
theorem q_1933 {x0 x1 x2 : Int} (h0 : (x0 ≠ (0 : Int))) (h1 : ((x0 = (0 : Int)) ∨ (x0 = (1 : Int)))) (h2 : ((x0 = (1 : Int)) → ((x1 + (4 : Int)) ≤ x2))) : ((x1 + (4 : Int)) ≤ x2) := by omega
theorem q_1934 {x0 x1 : Int} (h0 : (x0 < x1)) : (((0 : Int) = (1 : Int)) → (((x0 + (4 : Int)) ≤ x0) ∧ (x0 ≤ x1))) := by omega
theorem q_1935 : (((1 : Int) = (0 : Int)) ∨ (((0 : Int) ≤ (0 : Int)) ∧ (((0 : Int) ≤ (0 : Int)) ∧ (((0 : Int) ≤ (0 : Int)) ∧ ((0 : Int) ≤ (0 : Int)))))) := by omega
theorem q_1936 {x0 : Int} (h0 : (((0 : Int) ≤ x0) ∧ (x0 ≤ (65536 : Int)))) : (((1 : Int) = (0 : Int)) ∨ ((0 : Int) ≤ x0)) := by omega
theorem q_1937 {x0 : Int} : ((x0 < (0 : Int)) ∨ (x0 = x0)) := by omega
theorem q_1938 {x0 x1 x2 : Int} (h0 : (x0 = (0 : Int))) : ((x0 = (0 : Int)) ∨ ((x0 ≠ (0 : Int)) ∧ (x1 ≥ x2))) := by omega
theorem q_1939 {x0 x1 x2 : Int} (h0 : (x0 ≠ (0 : Int))) (h1 : (x1 ≤ x2)) : ((x0 = (0 : Int)) ∨ ((x0 ≠ (0 : Int)) ∧ (x2 ≥ x1))) := by omega
theorem q_1940 {x0 x1 : Int} (h0 : (((0 : Int) ≤ x0) ∧ (x0 ≤ x1))) : (x0 ≤ x1) := by omega
theorem q_1941 {x0 x1 x2 : Int} (h0 : (((x0 = (0 : Int)) ∧ ((x1 < (4 : Int)) ∨ (x2 ≠ (3962610743 : Int)))) ∨ ((x0 = (1 : Int)) ∧ (((4 : Int) ≤ x1) ∧ (x2 = (3962610743 : Int)))))) : (((0 : Int) ≤ x0) ∧ (x0 ≤ (1 : Int))) := by omega
theorem q_1942 {x0 x1 : Int} : (((2 : Int) < (0 : Int)) → (x0 = x1)) := by omega
theorem q_1943 {x0 x1 : Int} : (((1 : Int) < (0 : Int)) → (x0 = x1)) := by omega
theorem q_1944 {x0 x1 : Int} : (((0 : Int) < (0 : Int)) → (x0 = x1)) := by omega
theorem q_1945 {x0 x1 x2 : Int} (h0 : (((x0 = (0 : Int)) ∧ (x1 = (0 : Int))) ∨ ((x0 = (1 : Int)) ∧ ((x1 % (4294967296 : Int)) = x2)))) : (((0 : Int) ≤ x0) ∧ (x0 ≤ (1 : Int))) := by omega
theorem q_1946 {x0 x1 : Int} (h0 : (x0 = (0 : Int))) : (((x0 = (0 : Int)) ∧ ((0 : Int) = (0 : Int))) ∨ ((x0 = (1 : Int)) ∧ (((0 : Int) % (4294967296 : Int)) = x1))) := by omega
theorem q_1947 : (((0 : Int) ≤ (4 : Int)) ∧ (((0 : Int) ≤ (4 : Int)) ∧ (((4 : Int) ≤ (8 : Int)) ∧ (((4 : Int) + (4 : Int)) ≤ (65536 : Int))))) := by omega
theorem q_1948 {x0 : Int} : ((x0 = (0 : Int)) → ((0 : Int) = (0 : Int))) := by omega
theorem q_1949 {x0 x1 : Int} (h0 : (x0 = (0 : Int))) (h1 : (((0 : Int) ≤ x1) ∧ (x1 ≤ (65536 : Int)))) : ((x0 = (1 : Int)) → ((8 : Int) ≤ x1)) := by omega
theorem q_1950 {x0 : Int} (h0 : (((0 : Int) ≤ x0) ∧ (x0 ≤ (65536 : Int)))) : (((0 : Int) ≤ (8 : Int)) ∧ (((8 : Int) ≤ (65536 : Int)) ∧ (((0 : Int) ≤ x0) ∧ (x0 ≤ (65536 : Int))))) := by omega
theorem q_1951 {x0 : Int} (h0 : ((8 : Int) ≤ x0)) (h1 : (((0 : Int) ≤ x0) ∧ (x0 ≤ (65536 : Int)))) : (inr x0) := by omega
theorem q_1952 {x0 x1 : Int} {p0 : Prop} (h0 : ((8 : Int) ≤ x0)) (h1 : ((0 : Int) ≤ x1)) (h2 : ((x1 = (-(1 : Int))) ∨ (((8 : Int) < x1) ∧ (x1 ≤ x0)))) (h3 : ((x1 ≠ (-(1 : Int))) → p0)) : (((8 : Int) ≤ x1) ∧ (x1 ≤ x0)) := by omega
theorem q_1953 {x0 x1 : Int} (h0 : (((8 : Int) ≤ x0) ∧ (x0 ≤ x1))) (h1 : (((0 : Int) ≤ x1) ∧ (x1 ≤ (65536 : Int)))) : (inr (x0 + (12 : Int))) := by omega
theorem q_1954 {x0 : Int} : (((2 : Int) < (0 : Int)) → ((1 : Int) ≤ x0)) := by omega
theorem q_1955 {x0 : Int} : (((1 : Int) < (0 : Int)) → ((1 : Int) ≤ x0)) := by omega
theorem q_1956 {x0 : Int} : (((0 : Int) < (0 : Int)) → ((1 : Int) ≤ x0)) := by omega
theorem q_1957 {x0 x1 x2 x3 x4 : Int} (h0 : ((3 : Int) ≤ x0)) (h1 : (((0 : Int) < x0) → ((1 : Int) ≤ x1))) (h2 : (((1 : Int) < x0) → ((1 : Int) ≤ x2))) (h3 : (((2 : Int) < x0) → ((1 : Int) ≤ x3))) : ((x4 = (1 : Int)) → (((1 : Int) ≤ x1) ∧ (((1 : Int) ≤ x2) ∧ ((1 : Int) ≤ x3)))) := by omega
theorem q_1958 {x0 x1 : Int} (h0 : ((8 : Int) ≤ x0)) : ((x1 = (1 : Int)) → ((8 : Int) ≤ x0)) := by omega
theorem q_1959 {x0 x1 : Int} (h0 : ((x0 + (12 : Int)) ≤ x1)) (h1 : (((8 : Int) ≤ x0) ∧ (x0 ≤ x1))) : (((0 : Int) ≤ (x0 + (12 : Int))) ∧ ((x0 + (12 : Int)) ≤ x1)) := by omega
theorem q_1960 {x0 x1 : Int} (h0 : ((x0 + (12 : Int)) ≤ x1)) (h1 : (((8 : Int) ≤ x0) ∧ (x0 ≤ x1))) (h2 : (((0 : Int) ≤ x1) ∧ (x1 ≤ (65536 : Int)))) : (inr (x0 + (12 : Int))) := by omega
theorem q_1961 {x0 x1 x2 : Int} (h0 : ((x0 + (12 : Int)) ≤ x1)) (h1 : (x2 < (3 : Int))) (h2 : (((0 : Int) ≤ x2) ∧ (x2 ≤ (3 : Int)))) (h3 : (((8 : Int) ≤ x0) ∧ (x0 ≤ x1))) (h4 : (((0 : Int) ≤ x1) ∧ (x1 ≤ (65536 : Int)))) : (((0 : Int) ≤ (x0 + ((4 : Int) * x2))) ∧ (((0 : Int) ≤ (4 : Int)) ∧ (((4 : Int) ≤ (8 : Int)) ∧ (((x0 + ((4 : Int) * x2)) + (4 : Int)) ≤ (65536 : Int))))) := by omega
theorem q_1962 {x0 x1 x2 : Int} (h0 : ((x0 + (12 : Int)) ≤ x1)) (h1 : (x2 < (3 : Int))) (h2 : (((0 : Int) ≤ x2) ∧ (x2 ≤ (3 : Int)))) (h3 : (((8 : Int) ≤ x0) ∧ (x0 ≤ x1))) (h4 : (((0 : Int) ≤ x1) ∧ (x1 ≤ (65536 : Int)))) : (inr (x0 + ((4 : Int) * x2))) := by omega
theorem q_1963 {x0 x1 : Int} (h0 : ((x0 + (12 : Int)) ≤ x1)) (h1 : (((8 : Int) ≤ x0) ∧ (x0 ≤ x1))) (h2 : (((0 : Int) ≤ x1) ∧ (x1 ≤ (65536 : Int)))) : (inr (x1 - (x0 + (12 : Int)))) := by omega
theorem q_1964 {x0 x1 : Int} (h0 : ((x0 + (12 : Int)) ≤ x1)) (h1 : (((8 : Int) ≤ x0) ∧ (x0 ≤ x1))) (h2 : (((0 : Int) ≤ x1) ∧ (x1 ≤ (65536 : Int)))) : (inrJ (x1 - (x0 + (12 : Int)))) := by omega
theorem q_1965 {x0 x1 : Int} (h0 : (((x0 ≠ (0 : Int)) ∧ ((x0 ≠ (1 : Int)) ∧ (x1 = (0 : Int)))) ∨ (((x0 ≠ (0 : Int)) ∧ ((x0 = (1 : Int)) ∧ (x1 = (2 : Int)))) ∨ ((x0 = (0 : Int)) ∧ (x1 = (1 : Int)))))) : (((0 : Int) ≤ x1) ∧ (x1 ≤ (2 : Int))) := by omega
theorem q_1966 {x0 x1 : Int} (h0 : (((8 : Int) ≤ x0) ∧ (x0 ≤ x1))) (h1 : (((0 : Int) ≤ x1) ∧ (x1 ≤ (65536 : Int)))) : (((0 : Int) ≤ x0) ∧ ((x0 ≤ (65536 : Int)) ∧ ((x1 ≤ (65536 : Int)) ∧ ((0 : Int) ≤ x1)))) := by omega
theorem q_1967 {x0 x1 x2 x3 x4 : Int} {p0 : Prop} (h0 : ((8 : Int) ≤ x0)) (h1 : ((0 : Int) ≤ x1)) (h2 : (((8 : Int) ≤ x2) ∧ (x2 ≤ x0))) (h3 : ((x1 = (-(1 : Int))) ∨ ((x2 ≤ x1) ∧ ((x1 ≤ x0) ∧ (((5 : Int) ≤ x3) ∧ (x3 ≤ x4)))))) (h4 : ((x1 ≠ (-(1 : Int))) → p0)) : (((8 : Int) ≤ x1) ∧ (x1 ≤ x0)) := by omega
theorem q_1968 : (inr (-(3 : Int))) := by omega
theorem q_1969 {x0 : Int} (h0 : (x0 ≠ (0 : Int))) (h1 : (x0 ≠ (1 : Int))) : (((x0 ≠ (0 : Int)) ∧ ((x0 ≠ (1 : Int)) ∧ ((0 : Int) = (0 : Int)))) ∨ (((x0 ≠ (0 : Int)) ∧ ((x0 = (1 : Int)) ∧ ((0 : Int) = (2 : Int)))) ∨ ((x0 = (0 : Int)) ∧ ((0 : Int) = (1 : Int))))) := by omega
theorem q_1970 {x0 : Int} (h0 : (x0 ≠ (0 : Int))) (h1 : (x0 = (1 : Int))) : (((x0 ≠ (0 : Int)) ∧ ((x0 ≠ (1 : Int)) ∧ ((2 : Int) = (0 : Int)))) ∨ (((x0 ≠ (0 : Int)) ∧ ((x0 = (1 : Int)) ∧ ((2 : Int) = (2 : Int)))) ∨ ((x0 = (0 : Int)) ∧ ((2 : Int) = (1 : Int))))) := by omega
theorem q_1971 {x0 : Int} (h0 : (x0 = (0 : Int))) : (((x0 ≠ (0 : Int)) ∧ ((x0 ≠ (1 : Int)) ∧ ((1 : Int) = (0 : Int)))) ∨ (((x0 ≠ (0 : Int)) ∧ ((x0 = (1 : Int)) ∧ ((1 : Int) = (2 : Int)))) ∨ ((x0 = (0 : Int)) ∧ ((1 : Int) = (1 : Int))))) := by omega
theorem q_1972 {x0 x1 : Int} (h0 : (x0 < (4 : Int))) : ((((0 : Int) = (0 : Int)) ∧ ((x0 < (4 : Int)) ∨ (x1 ≠ (3962610743 : Int)))) ∨ (((0 : Int) = (1 : Int)) ∧ (((4 : Int) ≤ x0) ∧ (x1 = (3962610743 : Int))))) := by omega
theorem q_1973 {x0 : Int} : (((0 : Int) = (0 : Int)) ∨ (((0 : Int) = (1 : Int)) ∧ ((4 : Int) ≤ x0))) := by omega
theorem q_1974 : (((0 : Int) ≤ (55 : Int)) ∧ (((55 : Int) ≤ (255 : Int)) ∧ (((0 : Int) ≤ (164 : Int)) ∧ (((164 : Int) ≤ (255 : Int)) ∧ (((0 : Int) ≤ (48 : Int)) ∧ (((48 : Int) ≤ (255 : Int)) ∧ (((0 : Int) ≤ (236 : Int)) ∧ ((236 : Int) ≤ (255 : Int))))))))) := by omega
theorem q_1975 : (((0 : Int) ≤ (0 : Int)) ∧ ((0 : Int) ≤ (65532 : Int))) := by omega
theorem q_1976 : (inr (236 : Int)) := by omega
theorem q_1977 : (inr (164 : Int)) := by omega
theorem q_1978 : (inr (55 : Int)) := by omega
theorem q_1979 {x0 : Int} (h0 : ((4 : Int) ≤ x0)) : (((1 : Int) = (0 : Int)) ∨ (((1 : Int) = (1 : Int)) ∧ ((4 : Int) ≤ x0))) := by omega
theorem q_1980 {x0 x1 : Int} (h0 : (((0 : Int) ≤ x0) ∧ ((x0 ≤ (3 : Int)) ∧ (((0 : Int) ≤ x1) ∧ (x1 ≤ (8 : Int)))))) : (((0 : Int) ≤ x0) ∧ (x0 ≤ (3 : Int))) := by omega
theorem q_1981 {x0 x1 : Int} (h0 : (((0 : Int) ≤ x0) ∧ ((x0 ≤ (3 : Int)) ∧ (((0 : Int) ≤ x1) ∧ (x1 ≤ (8 : Int)))))) : (((0 : Int) ≤ x1) ∧ (x1 ≤ (8 : Int))) := by omega
theorem q_1982 {x0 x1 x2 x3 : Int} (h0 : (x0 ≤ x1)) (h1 : (((0 : Int) ≤ x0) ∧ (x0 ≤ (31 : Int)))) (h2 : ((x1 ≤ (0 : Int)) ∨ (x1 ≤ x0))) (h3 : (x2 = (x3 + x1))) : (x2 = (x3 + x0)) := by omega
theorem q_1983 : (inr (192000 : Int)) := by omega
theorem q_1984 {x0 : Int} (h0 : (((0 : Int) ≤ x0) ∧ (x0 ≤ (100000000 : Int)))) : (inr x0) := by omega
theorem q_1985 {x0 : Int} (h0 : (x0 < (192000 : Int))) (h1 : (((0 : Int) ≤ x0) ∧ (x0 ≤ (100000000 : Int)))) : ((inr x0) ∧ ((0 : Int) ≤ x0)) := by omega
theorem q_1986 {x0 : Int} (h0 : (x0 < (192000 : Int))) (h1 : (((0 : Int) ≤ x0) ∧ (x0 ≤ (100000000 : Int)))) : (((0 : Int) ≤ (x0 / (8 : Int))) ∧ ((x0 / (8 : Int)) < ((24000 : Nat) : Int))) := by omega
theorem q_1987 {x0 : Int} (h0 : (x0 < (192000 : Int))) (h1 : (((0 : Int) ≤ x0) ∧ (x0 ≤ (100000000 : Int)))) : (((0 : Int) ≤ (x0 + (1 : Int))) ∧ ((x0 + (1 : Int)) ≤ (100000000 : Int))) := by omega
theorem q_1988 {x0 : Int} : (((x0 - (1 : Int)) / (8 : Int)) = ((x0 - (1 : Int)) / (8 : Int))) := by omega
theorem q_1989 {x0 : Int} : ((x0 ≤ x0) ∧ (x0 ≤ (x0 + (7 : Int)))) := by omega
theorem q_1990 {x0 : Int} (h0 : (((0 : Int) ≤ x0) ∧ (x0 ≤ (100000000 : Int)))) : ((inr x0) ∧ ((0 : Int) ≤ x0)) := by omega
theorem q_1993 : (((0 : Int) ≤ (0 : Int)) ∧ ((0 : Int) ≤ (24000 : Int))) := by omega
theorem q_1994 : (inr (24000 : Int)) := by omega
theorem q_1995 {x0 : Int} (h0 : (x0 < (24000 : Int))) (h1 : (((0 : Int) ≤ x0) ∧ (x0 ≤ (24000 : Int)))) : (inr ((8 : Int) * x0)) := by omega
theorem q_1996 {x0 : Int} (h0 : (x0 < (24000 : Int))) (h1 : (((0 : Int) ≤ x0) ∧ (x0 ≤ (24000 : Int)))) : (((0 : Int) ≤ x0) ∧ (x0 < ((24000 : Nat) : Int))) := by omega
theorem q_1997 {x0 : Int} (h0 : (x0 < (24000 : Int))) (h1 : (((0 : Int) ≤ x0) ∧ (x0 ≤ (24000 : Int)))) : (((0 : Int) ≤ (x0 + (1 : Int))) ∧ ((x0 + (1 : Int)) ≤ (24000 : Int))) := by omega
theorem q_1998 {x0 : Int} (h0 : (x0 < (24000 : Int))) (h1 : (((0 : Int) ≤ x0) ∧ (x0 ≤ (24000 : Int)))) : (inr (x0 + (1 : Int))) := by omega
theorem q_2001 {x0 : Int} (h0 : ((65536 : Int) ≤ x0)) (h1 : (((0 : Int) ≤ x0) ∧ (x0 ≤ (99999999 : Int)))) : (((0 : Int) ≤ (x0 + (1 : Int))) ∧ ((x0 + (1 : Int)) ≤ (100000000 : Int))) := by omega
theorem q_2002 {x0 : Int} (h0 : (x0 < (65536 : Int))) (h1 : (((0 : Int) ≤ x0) ∧ (x0 ≤ (100000000 : Int)))) : (((0 : Int) ≤ x0) ∧ (x0 < ((65536 : Nat) : Int))) := by omega
theorem q_2003 {x0 : Int} (h0 : (x0 < (65536 : Int))) (h1 : (((0 : Int) ≤ x0) ∧ (x0 ≤ (100000000 : Int)))) : (((0 : Int) ≤ (x0 + (1 : Int))) ∧ ((x0 + (1 : Int)) ≤ (100000000 : Int))) := by omega
theorem q_2004 {x0 : Int} (h0 : (((0 : Int) ≤ x0) ∧ (x0 ≤ (100000000 : Int)))) : (((0 : Int) ≤ (0 : Int)) ∧ ((0 : Int) ≤ (x0 / (8 : Int)))) := by omega
theorem q_2005 {x0 : Int} (h0 : (((0 : Int) ≤ x0) ∧ (x0 ≤ (192000 : Int)))) (h1 : (((0 : Int) ≤ x0) ∧ (x0 ≤ (100000000 : Int)))) : ((inr x0) ∧ ((0 : Int) ≤ x0)) := by omega
theorem q_2006 {x0 : Int} (h0 : (((0 : Int) ≤ x0) ∧ (x0 ≤ (192000 : Int)))) (h1 : (((0 : Int) ≤ x0) ∧ (x0 ≤ (100000000 : Int)))) : (inr (x0 / (8 : Int))) := by omega
theorem q_2007 {x0 x1 x2 x3 : Int} (h0 : ((x0 / (8 : Int)) ≤ x1)) (h1 : (((0 : Int) ≤ x1) ∧ (x1 ≤ (x0 / (8 : Int))))) (h2 : (x2 = (x3 + x1))) : (x2 = (x3 + (x0 / (8 : Int)))) := by omega
theorem q_2008 {x0 x1 : Int} (h0 : (x0 < (x1 / (8 : Int)))) (h1 : (((0 : Int) ≤ x0) ∧ (x0 ≤ (x1 / (8 : Int))))) : (((0 : Int) ≤ (x0 + (1 : Int))) ∧ ((x0 + (1 : Int)) ≤ (x1 / (8 : Int)))) := by omega
theorem q_2009 {x0 : Int} (h0 : (x0 ≤ (65536 : Int))) (h1 : (((0 : Int) ≤ x0) ∧ (x0 ≤ (100000000 : Int)))) : (inr x0) := by omega
theorem q_2010 {x0 : Int} (h0 : (x0 ≤ (65536 : Int))) (h1 : (((0 : Int) ≤ x0) ∧ (x0 ≤ (100000000 : Int)))) : (((-(1 : Int)) ≤ x0) ∧ (x0 ≤ (65536 : Int))) := by omega
theorem q_2011 : (((-(1 : Int)) ≤ (-(1 : Int))) ∧ ((-(1 : Int)) ≤ (65536 : Int))) := by omega
theorem q_2012 {x0 x1 x2 x3 : Int} : (((0 : Int) = (0 : Int)) ∨ ((x0 ≤ (0 : Int)) ∧ (((0 : Int) ≤ x1) ∧ (x2 < x3)))) := by omega
theorem q_2013 {x0 x1 : Int} (h0 : (((0 : Int) ≤ x0) ∧ (x0 < x1))) : (((-(1 : Int)) ≤ (x0 - (1 : Int))) ∧ ((x0 - (1 : Int)) < x0)) := by omega
theorem q_2014 {x0 x1 : Int} (h0 : (inr x0)) (h1 : (((0 : Int) ≤ x0) ∧ (x0 < x1))) : (inr (x0 - (1 : Int))) := by omega
theorem q_2015 {x0 x1 x2 x3 x4 : Int} (h0 : ((x0 = (0 : Int)) ∨ ((x1 ≤ x0) ∧ ((x0 ≤ x2) ∧ (x3 < x4))))) (h1 : (((0 : Int) ≤ x1) ∧ (x1 ≤ (8 : Int)))) : ((0 : Int) ≤ x0) := by omega
theorem q_2016 {x0 : Int} (h0 : (((0 : Int) ≤ x0) ∧ (x0 ≤ (16777216 : Int)))) : (inr x0) := by omega
theorem q_2017 {x0 x1 x2 x3 x4 x5 x6 : Int} (h0 : ((0 : Int) ≤ x0)) (h1 : (x1 < x2)) (h2 : (((-(1 : Int)) ≤ x0) ∧ (x0 < x3))) (h3 : ((x1 = (0 : Int)) ∨ ((x4 ≤ x1) ∧ ((x1 ≤ x2) ∧ (x5 < x3))))) (h4 : ((((x6 - x3) ≥ (131074 : Int)) ∧ (x2 = (131074 : Int))) ∨ (((x6 - x3) < (131074 : Int)) ∧ (x2 = (x6 - x3))))) (h5 : (((0 : Int) ≤ x4) ∧ (x4 ≤ (8 : Int)))) (h6 : (((0 : Int) ≤ x6) ∧ (x6 ≤ (16384 : Int)))) : (((0 : Int) ≤ x0) ∧ ((x0 < x3) ∧ (((x2 + x3) ≤ (16384 : Int)) ∧ ((0 : Int) ≤ x2)))) := by omega
theorem q_2018 {x0 : Int} (h0 : (((0 : Int) ≤ x0) ∧ (x0 ≤ (8 : Int)))) : (inr x0) := by omega
theorem q_2019 {x0 x1 : Int} (h0 : ((0 : Int) ≤ x0)) (h1 : (((-(1 : Int)) ≤ x0) ∧ (x0 < x1))) : (((-(1 : Int)) ≤ (x0 + (-(1 : Int)))) ∧ ((x0 + (-(1 : Int))) < x1)) := by omega
theorem q_2020 {x0 : Int} : (((x0 + (-(1 : Int))) + (1 : Int)) < (x0 + (1 : Int))) := by omega
theorem q_2021 {x0 : Int} (h0 : ((0 : Int) ≤ x0)) : ((0 : Int) < (x0 + (1 : Int))) := by omega
theorem q_2022 {x0 x1 x2 : Int} (h0 : ((0 : Int) ≤ x0)) (h1 : (((0 : Int) ≤ x1) ∧ (x1 < x2))) (h2 : (((-(1 : Int)) ≤ x0) ∧ (x0 < x1))) (h3 : (((0 : Int) ≤ x2) ∧ (x2 ≤ (16384 : Int)))) : (((0 : Int) ≤ x0) ∧ (x0 ≤ (16384 : Int))) := by omega
theorem q_2023 {x0 x1 x2 x3 x4 : Int} (h0 : (x0 ≤ x1)) (h1 : (((-(1 : Int)) ≤ x2) ∧ (x2 < x3))) (h2 : (((0 : Int) ≤ x1) ∧ (x1 ≤ x4))) : ((x1 = (0 : Int)) ∨ ((x0 ≤ x1) ∧ ((x1 ≤ x4) ∧ (x2 < x3)))) := by omega
theorem q_2024 {x0 x1 : Int} (h0 : (((0 : Int) ≤ x0) ∧ (x0 ≤ x1))) : ((0 : Int) ≤ x0) := by omega
theorem q_2025 : (inr (131074 : Int)) := by omega
theorem q_2026 {x0 x1 : Int} (h0 : (((0 : Int) ≤ x0) ∧ (x0 < x1))) (h1 : (((0 : Int) ≤ x1) ∧ (x1 ≤ (16384 : Int)))) : (inr (x1 - x0)) := by omega
theorem q_2027 {x0 x1 : Int} (h0 : ((131074 : Int) ≤ (x0 - x1))) : ((((x0 - x1) ≥ (131074 : Int)) ∧ ((131074 : Int) = (131074 : Int))) ∨ (((x0 - x1) < (131074 : Int)) ∧ ((131074 : Int) = (x0 - x1)))) := by omega
theorem q_2028 {x0 x1 : Int} (h0 : ((x0 - x1) < (131074 : Int))) : ((((x0 - x1) ≥ (131074 : Int)) ∧ ((x0 - x1) = (131074 : Int))) ∨ (((x0 - x1) < (131074 : Int)) ∧ ((x0 - x1) = (x0 - x1)))) := by omega
theorem q_2029 {x0 x1 : Int} (h0 : ((x0 - x1) < (131074 : Int))) (h1 : (((0 : Int) ≤ x1) ∧ (x1 < x0))) : (inr (x0 - x1)) := by omega
theorem q_2030 {x0 : Int} (h0 : (((0 : Int) ≤ x0) ∧ (x0 ≤ (3 : Int)))) : (inr x0) := by omega
theorem q_2031 {x0 x1 : Int} (h0 : (((0 : Int) ≤ x0) ∧ (x0 < x1))) (h1 : (((0 : Int) ≤ x1) ∧ (x1 ≤ (16384 : Int)))) : (inr (x0 + (1 : Int))) := by omega
theorem q_2032 {x0 x1 x2 x3 : Int} : (((0 : Int) = (0 : Int)) ∨ ((x0 ≤ (0 : Int)) ∧ (((0 : Int) ≤ (x1 - x2)) ∧ (x3 < x2)))) := by omega
theorem q_2033 {x0 x1 : Int} (h0 : ((x0 + (1 : Int)) < x1)) (h1 : (((0 : Int) ≤ x0) ∧ (x0 < x1))) : (((0 : Int) ≤ (x0 + (1 : Int))) ∧ ((x0 + (1 : Int)) < x1)) := by omega
theorem q_2034 {x0 x1 : Int} (h0 : ((x0 + (1 : Int)) < x1)) (h1 : (((0 : Int) ≤ x0) ∧ (x0 < x1))) (h2 : (((0 : Int) ≤ x1) ∧ (x1 ≤ (16384 : Int)))) : (inr (x0 + (1 : Int))) := by omega
theorem q_2035 {x0 : Int} (h0 : (x0 < (3 : Int))) (h1 : (((0 : Int) ≤ x0) ∧ (x0 ≤ (3 : Int)))) : (inr x0) := by omega
theorem q_2036 : (((0 : Int) ≤ (0 : Int)) ∧ ((0 : Int) ≤ (8001 : Int))) := by omega
theorem q_2037 : (((0 : Int) ≤ (0 : Int)) ∧ ((0 : Int) ≤ (16385 : Int))) := by omega
theorem q_2038 {x0 : Int} : ((((3 : Int) * (0 : Int)) + (0 : Int)) ≤ (x0 - x0)) := by omega
theorem q_2039 {x0 : Int} : (((0 : Int) ≤ (0 : Int)) ∧ ((0 : Int) ≤ (x0 - x0))) := by omega
theorem q_2040 {x0 x1 x2 x3 x4 : Int} (h0 : ((x0 ≤ x1) ∧ (x1 ≤ x2))) (h1 : ((((3 : Int) * x3) + x4) ≤ (x1 - x0))) : ((((3 : Int) * x3) + x4) ≤ (x2 - x0)) := by omega
theorem q_2041 {x0 x1 x2 : Int} (h0 : (x0 < x1)) (h1 : (((0 : Int) ≤ x2) ∧ (x2 ≤ x1))) (h2 : ((x2 ≤ x0) ∧ (x0 ≤ x1))) : (((0 : Int) ≤ x0) ∧ (x0 < x1)) := by omega
theorem q_2042 {x0 x1 x2 x3 : Int} (h0 : (x0 < x1)) (h1 : (((0 : Int) ≤ x2) ∧ (x2 ≤ x1))) (h2 : (((0 : Int) ≤ x3) ∧ (x3 ≤ (x0 - x2)))) (h3 : (((0 : Int) ≤ x1) ∧ (x1 ≤ (16384 : Int)))) : (((0 : Int) ≤ x3) ∧ (x3 ≤ (16384 : Int))) := by omega
theorem q_2043 {x0 x1 x2 x3 x4 : Int} (h0 : ((0 : Int) ≤ x0)) (h1 : ((x0 = (0 : Int)) ∨ ((x1 ≤ x0) ∧ ((x0 ≤ (x2 - x3)) ∧ (x4 < x3))))) (h2 : (((0 : Int) ≤ x4) ∧ (x4 ≤ (16384 : Int)))) (h3 : (((0 : Int) ≤ x2) ∧ (x2 ≤ (16384 : Int)))) : (((0 : Int) ≤ x0) ∧ (x0 ≤ (16384 : Int))) := by omega
theorem q_2044 {x0 x1 : Int} (h0 : (((0 : Int) ≤ x0) ∧ (x0 ≤ (8001 : Int)))) (h1 : (((0 : Int) ≤ x1) ∧ (x1 ≤ (16385 : Int)))) : (((0 : Int) ≤ (x0 + (1 : Int))) ∧ ((0 : Int) ≤ x1)) := by omega
theorem q_2045 {x0 x1 x2 x3 : Int} (h0 : ((x0 ≤ x1) ∧ (x1 ≤ x2))) (h1 : ((0 : Int) ≤ x3)) : (((0 : Int) ≤ (0 : Int)) ∧ ((0 : Int) ≤ ((x1 + x3) - x0))) := by omega
theorem q_2046 {x0 x1 x2 x3 x4 x5 : Int} (h0 : (x0 < x1)) (h1 : ((x2 ≤ x0) ∧ (x0 ≤ x1))) (h2 : ((0 : Int) ≤ x3)) (h3 : ((x3 = (0 : Int)) ∨ ((x4 ≤ x3) ∧ ((x3 ≤ (x1 - x0)) ∧ (x5 < x0))))) : ((x2 ≤ (x0 + x3)) ∧ ((x0 + x3) ≤ x1)) := by omega
theorem q_2047 {x0 x1 x2 x3 x4 : Int} (h0 : (inr x0)) (h1 : ((0 : Int) ≤ x1)) (h2 : ((x1 = (0 : Int)) ∨ ((x2 ≤ x1) ∧ ((x1 ≤ (x3 - x0)) ∧ (x4 < x0))))) (h3 : (((0 : Int) ≤ x3) ∧ (x3 ≤ (16384 : Int)))) : (inr (x0 + x1)) := by omega
theorem q_2048 {x0 x1 x2 : Int} (h0 : (x0 < x1)) (h1 : (((0 : Int) ≤ x2) ∧ (x2 ≤ x1))) (h2 : ((x2 ≤ x0) ∧ (x0 ≤ x1))) (h3 : (((0 : Int) ≤ x1) ∧ (x1 ≤ (16384 : Int)))) : (((0 : Int) ≤ x0) ∧ (x0 < ((16384 : Nat) : Int))) := by omega
theorem q_2049 {x0 x1 x2 x3 x4 : Int} (h0 : (x0 < x1)) (h1 : (((0 : Int) ≤ x2) ∧ (x2 ≤ x1))) (h2 : ((((3 : Int) * x3) + x4) ≤ (x0 - x2))) (h3 : (((0 : Int) ≤ x3) ∧ ((0 : Int) ≤ x4))) (h4 : (((0 : Int) ≤ x1) ∧ (x1 ≤ (16384 : Int)))) (h5 : (((0 : Int) ≤ x4) ∧ (x4 ≤ (16385 : Int)))) : (((0 : Int) ≤ x4) ∧ (x4 < ((16385 : Nat) : Int))) := by omega
theorem q_2050 {x0 x1 x2 x3 x4 : Int} (h0 : (x0 < x1)) (h1 : (((0 : Int) ≤ x2) ∧ (x2 ≤ x1))) (h2 : ((((3 : Int) * x3) + x4) ≤ (x0 - x2))) (h3 : (((0 : Int) ≤ x3) ∧ ((0 : Int) ≤ x4))) (h4 : (((0 : Int) ≤ x1) ∧ (x1 ≤ (16384 : Int)))) (h5 : (((0 : Int) ≤ x4) ∧ (x4 ≤ (16385 : Int)))) : (((0 : Int) ≤ (x4 + (1 : Int))) ∧ ((x4 + (1 : Int)) ≤ (16385 : Int))) := by omega
theorem q_2051 {x0 x1 : Int} (h0 : (((0 : Int) ≤ x0) ∧ (x0 ≤ (8001 : Int)))) (h1 : (((0 : Int) ≤ x1) ∧ (x1 ≤ (16385 : Int)))) : (((0 : Int) ≤ x0) ∧ ((0 : Int) ≤ (x1 + (1 : Int)))) := by omega
theorem q_2052 {x0 x1 x2 x3 : Int} (h0 : ((((3 : Int) * x0) + x1) ≤ (x2 - x3))) : ((((3 : Int) * x0) + (x1 + (1 : Int))) ≤ ((x2 + (1 : Int)) - x3)) := by omega
theorem q_2053 {x0 x1 x2 : Int} (h0 : (((0 : Int) ≤ x0) ∧ (x0 ≤ (x1 - x2)))) : (((0 : Int) ≤ (x0 + (1 : Int))) ∧ ((x0 + (1 : Int)) ≤ ((x1 + (1 : Int)) - x2))) := by omega
theorem q_2054 {x0 x1 : Int} (h0 : (x0 < x1)) (h1 : (inr x0)) (h2 : (((0 : Int) ≤ x1) ∧ (x1 ≤ (16384 : Int)))) : (inr (x0 + (1 : Int))) := by omega
theorem q_2055 {x0 x1 x2 x3 : Int} (h0 : (x0 < x1)) (h1 : (((0 : Int) ≤ x2) ∧ (x2 ≤ x1))) (h2 : (((0 : Int) ≤ x3) ∧ (x3 ≤ (x0 - x2)))) (h3 : (((0 : Int) ≤ x1) ∧ (x1 ≤ (16384 : Int)))) : (inr (x3 + (1 : Int))) := by omega
theorem q_2056 : (((0 : Int) ≤ (0 : Int)) ∧ ((0 : Int) ≤ (30 : Int))) := by omega
theorem q_2057 {x0 : Int} (h0 : (((0 : Int) ≤ x0) ∧ (x0 ≤ (30 : Int)))) : (inr (x0 + (1 : Int))) := by omega
theorem q_2058 {x0 : Int} : (((31 : Int) - (x0 + (1 : Int))) < ((31 : Int) - x0)) := by omega
theorem q_2060 {x0 x1 : Int} (h0 : (((0 : Int) ≤ x0) ∧ ((x0 ≤ (16384 : Int)) ∧ (((0 : Int) ≤ x1) ∧ (x1 ≤ (1 : Int)))))) : (((1 : Int) ≤ (x0 + (3 : Int))) ∧ ((x0 + (3 : Int)) ≤ (x0 + (3 : Int)))) := by omega
theorem q_2061 : (((3 : Int) ≤ (3 : Int)) ∨ ((0 : Int) ≤ (3 : Int))) := by omega
theorem q_2062 : ((3 : Int) ≤ (3 : Int)) := by omega
theorem q_2063 {x0 x1 : Int} (h0 : (((0 : Int) ≤ x0) ∧ ((x0 ≤ (16384 : Int)) ∧ (((0 : Int) ≤ x1) ∧ (x1 ≤ (1 : Int)))))) : (inr (x0 + (3 : Int))) := by omega
theorem q_2064 {x0 x1 x2 : Int} (h0 : (x0 ≤ (3 : Int))) (h1 : (((0 : Int) ≤ x1) ∧ ((x1 ≤ (16384 : Int)) ∧ (((0 : Int) ≤ x2) ∧ (x2 ≤ (1 : Int)))))) (h2 : (((1 : Int) ≤ x0) ∧ (x0 ≤ (x1 + (3 : Int))))) : (inr (x0 + x2)) := by omega
theorem q_2065 {x0 x1 x2 : Int} (h0 : ((x0 + x1) ≤ (2 : Int))) (h1 : (((0 : Int) ≤ x2) ∧ ((x2 ≤ (16384 : Int)) ∧ (((0 : Int) ≤ x1) ∧ (x1 ≤ (1 : Int)))))) (h2 : (((1 : Int) ≤ x0) ∧ (x0 ≤ (x2 + (3 : Int))))) : (inr (x0 + x1)) := by omega
theorem q_2066 {x0 x1 : Int} (h0 : (((0 : Int) ≤ x0) ∧ ((x0 ≤ (16384 : Int)) ∧ (((0 : Int) ≤ x1) ∧ (x1 ≤ (1 : Int)))))) : (((-(2147483648 : Int)) ≤ x0) ∧ (x0 ≤ (2147483647 : Int))) := by omega
theorem q_2067 {x0 x1 x2 : Int} (h0 : (x0 ≤ (3 : Int))) (h1 : ((2 : Int) < (x0 + x1))) (h2 : (((0 : Int) ≤ x2) ∧ ((x2 ≤ (16384 : Int)) ∧ (((0 : Int) ≤ x1) ∧ (x1 ≤ (1 : Int)))))) : (inr (x0 + x1)) := by omega
theorem q_2068 {x0 x1 x2 : Int} (h0 : ((0 : Int) < x0)) (h1 : (((0 : Int) ≤ x1) ∧ ((x1 ≤ (16384 : Int)) ∧ (((0 : Int) ≤ x2) ∧ (x2 ≤ (1 : Int)))))) (h2 : (((0 : Int) ≤ x0) ∧ (x0 ≤ (3 : Int)))) : (inr (x0 + x2)) := by omega
theorem q_2069 {x0 : Int} (h0 : ((0 : Int) < x0)) (h1 : (((0 : Int) ≤ x0) ∧ (x0 ≤ (3 : Int)))) : (((0 : Int) ≤ (x0 + (-(1 : Int)))) ∧ ((x0 + (-(1 : Int))) ≤ (3 : Int))) := by omega
theorem q_2070 {x0 : Int} (h0 : ((0 : Int) < x0)) : (((3 : Int) ≤ (x0 + (-(1 : Int)))) ∨ ((0 : Int) ≤ (x0 + (-(1 : Int))))) := by omega
theorem q_2071 {x0 : Int} (h0 : (((0 : Int) ≤ x0) ∧ (x0 ≤ (3 : Int)))) : ((x0 + (-(1 : Int))) ≤ (3 : Int)) := by omega
theorem q_2072 {x0 : Int} (h0 : ((0 : Int) < x0)) (h1 : (((0 : Int) ≤ x0) ∧ (x0 ≤ (3 : Int)))) : (inr (x0 + (-(1 : Int)))) := by omega
theorem q_2073 {x0 x1 x2 : Int} (h0 : ((0 : Int) < x0)) (h1 : (((0 : Int) ≤ x1) ∧ ((x1 ≤ (16384 : Int)) ∧ (((0 : Int) ≤ x2) ∧ (x2 ≤ (1 : Int)))))) (h2 : (((0 : Int) ≤ x0) ∧ (x0 ≤ (3 : Int)))) : (((1 : Int) ≤ x0) ∧ (x0 ≤ (x1 + (3 : Int)))) := by omega
theorem q_2074 {x0 : Int} : (((0 : Int) = (0 : Int)) ∨ ((0 : Int) ≤ x0)) := by omega
theorem q_2075 : (((0 : Int) ≤ (0 : Int)) ∧ ((0 : Int) ≤ (16384 : Int))) := by omega
theorem q_2076 : (((0 : Int) ≤ (0 : Int)) ∧ ((0 : Int) ≤ (33 : Int))) := by omega
theorem q_2077 {x0 : Int} (h0 : (((0 : Int) ≤ x0) ∧ (x0 ≤ (33 : Int)))) : (((0 : Int) ≤ x0) ∧ (x0 ≤ (35 : Int))) := by omega
theorem q_2078 {x0 x1 : Int} (h0 : (x0 < x1)) (h1 : ((0 : Int) ≤ x0)) (h2 : (((0 : Int) ≤ x1) ∧ (x1 ≤ (8001 : Int)))) : (((0 : Int) ≤ x0) ∧ (x0 < ((8001 : Nat) : Int))) := by omega
theorem q_2079 {x0 x1 x2 : Int} (h0 : (x0 = x1)) (h1 : (x2 = x1)) : (x0 = x2) := by omega
theorem q_2080 {x0 x1 : Int} (h0 : (((0 : Int) ≤ x0) ∧ (x0 ≤ (33 : Int)))) (h1 : (((0 : Int) ≤ x1) ∧ (x1 ≤ (16 : Int)))) : (((0 : Int) ≤ x0) ∧ ((x0 ≤ (63 : Int)) ∧ (((0 : Int) ≤ x1) ∧ (x1 ≤ (31 : Int))))) := by omega
theorem q_2081 {x0 x1 : Int} (h0 : (x0 < x1)) (h1 : ((0 : Int) ≤ x0)) (h2 : (((0 : Int) ≤ x1) ∧ (x1 ≤ (8001 : Int)))) : (((0 : Int) ≤ (0 : Int)) ∧ (((0 : Int) ≤ (2 : Int)) ∧ (((0 : Int) ≤ x0) ∧ (x0 ≤ (8000 : Int))))) := by omega
theorem q_2083 {x0 : Int} : (((0 : Int) = (0 : Int)) ∨ ((3 : Int) ≤ x0)) := by omega
theorem q_2084 : (((0 : Int) ≤ (3 : Int)) ∧ ((3 : Int) ≤ (16384 : Int))) := by omega
theorem q_2085 : (((0 : Int) ≤ (0 : Int)) ∧ ((0 : Int) ≤ (49 : Int))) := by omega
theorem q_2086 {x0 : Int} (h0 : (((0 : Int) ≤ x0) ∧ (x0 ≤ (49 : Int)))) : (((0 : Int) ≤ x0) ∧ (x0 ≤ (52 : Int))) := by omega
theorem q_2087 {x0 x1 : Int} (h0 : (((0 : Int) ≤ x0) ∧ (x0 ≤ (49 : Int)))) (h1 : (((0 : Int) ≤ x1) ∧ (x1 ≤ (16 : Int)))) : (((0 : Int) ≤ x0) ∧ ((x0 ≤ (63 : Int)) ∧ (((0 : Int) ≤ x1) ∧ (x1 ≤ (31 : Int))))) := by omega
theorem q_2088 {x0 x1 : Int} (h0 : (x0 < x1)) (h1 : ((0 : Int) ≤ x0)) (h2 : (((0 : Int) ≤ x1) ∧ (x1 ≤ (8001 : Int)))) : (((0 : Int) ≤ (2 : Int)) ∧ (((2 : Int) ≤ (2 : Int)) ∧ (((0 : Int) ≤ x0) ∧ (x0 ≤ (8000 : Int))))) := by omega
theorem q_2089 {x0 : Int} (h0 : (((0 : Int) ≤ x0) ∧ (x0 ≤ (16384 : Int)))) : (((0 : Int) ≤ x0) ∧ ((x0 ≤ (16384 : Int)) ∧ (((0 : Int) ≤ (0 : Int)) ∧ ((0 : Int) ≤ (1 : Int))))) := by omega
theorem q_2090 {x0 x1 : Int} (h0 : (((1 : Int) ≤ x0) ∧ (x0 ≤ (x1 + (3 : Int))))) : ((1 : Int) ≤ x0) := by omega
theorem q_2091 {x0 : Int} (h0 : (((0 : Int) ≤ x0) ∧ (x0 ≤ (30 : Int)))) : (((0 : Int) ≤ x0) ∧ (x0 ≤ (31 : Int))) := by omega
theorem q_2093 {x0 x1 : Int} (h0 : (x0 < x1)) (h1 : ((0 : Int) ≤ x0)) (h2 : (((0 : Int) ≤ x1) ∧ (x1 ≤ (8001 : Int)))) : (((0 : Int) ≤ (1 : Int)) ∧ (((1 : Int) ≤ (2 : Int)) ∧ (((0 : Int) ≤ x0) ∧ (x0 ≤ (8000 : Int))))) := by omega
theorem q_2094 {x0 x1 : Int} (h0 : (inr x0)) (h1 : ((x1 ≤ x0) ∧ (x0 < ((2 : Int) * x1)))) : (inr (x0 - x1)) := by omega
theorem q_2095 {x0 : Int} (h0 : (((0 : Int) ≤ x0) ∧ (x0 ≤ (16384 : Int)))) : (((0 : Int) ≤ x0) ∧ ((x0 ≤ (16384 : Int)) ∧ (((0 : Int) ≤ (1 : Int)) ∧ ((1 : Int) ≤ (1 : Int))))) := by omega
theorem q_2096 {x0 : Int} (h0 : (((0 : Int) ≤ x0) ∧ (x0 ≤ (49 : Int)))) : (inr (x0 + (1 : Int))) := by omega
theorem q_2097 {x0 : Int} : (((60 : Int) - (x0 + (1 : Int))) < ((60 : Int) - x0)) := by omega
theorem q_2098 {x0 : Int} (h0 : (((0 : Int) ≤ x0) ∧ (x0 ≤ (49 : Int)))) : ((0 : Int) < ((60 : Int) - x0)) := by omega
theorem q_2099 {x0 : Int} (h0 : (((0 : Int) ≤ x0) ∧ (x0 ≤ (33 : Int)))) : (inr (x0 + (1 : Int))) := by omega
theorem q_2100 {x0 : Int} : (((40 : Int) - (x0 + (1 : Int))) < ((40 : Int) - x0)) := by omega
theorem q_2101 {x0 : Int} (h0 : (((0 : Int) ≤ x0) ∧ (x0 ≤ (33 : Int)))) : ((0 : Int) < ((40 : Int) - x0)) := by omega
theorem q_2102 {x0 x1 x2 : Int} (h0 : (x0 < x1)) (h1 : (((0 : Int) ≤ x2) ∧ (((0 : Int) ≤ x1) ∧ ((x2 + x1) ≤ (64 : Int))))) (h2 : ((0 : Int) ≤ x0)) : (((0 : Int) ≤ (x2 + x0)) ∧ ((x2 + x0) < ((64 : Nat) : Int))) := by omega
theorem q_2103 {x0 : Int} (h0 : (x0 ≠ (1 : Int))) : (((x0 = (1 : Int)) ∧ ((6 : Int) = (5 : Int))) ∨ ((x0 ≠ (1 : Int)) ∧ ((6 : Int) = (6 : Int)))) := by omega
theorem q_2104 : (((5 : Int) ≤ (6 : Int)) ∧ ((6 : Int) ≤ (6 : Int))) := by omega
theorem q_2105 {x0 : Int} (h0 : (x0 = (1 : Int))) : (((x0 = (1 : Int)) ∧ ((5 : Int) = (5 : Int))) ∨ ((x0 ≠ (1 : Int)) ∧ ((5 : Int) = (6 : Int)))) := by omega
theorem q_2106 : (((5 : Int) ≤ (5 : Int)) ∧ ((5 : Int) ≤ (6 : Int))) := by omega
theorem q_2107 {x0 x1 x2 x3 : Int} (h0 : (x0 = (x1 + (3 : Int)))) (h1 : (x2 = ((0 : Int) + (1 : Int)))) (h2 : (x3 = (x2 + (1 : Int)))) (h3 : (x1 = (x3 + (11 : Int)))) : (((0 : Int) ≤ x0) ∧ (((0 : Int) ≤ (9 : Int)) ∧ ((x0 + (9 : Int)) ≤ (64 : Int)))) := by omega
theorem q_2108 {x0 : Int} (h0 : (x0 = (0 : Int))) : (((x0 = (1 : Int)) ∧ ((6 : Int) = (5 : Int))) ∨ ((x0 ≠ (1 : Int)) ∧ ((6 : Int) = (6 : Int)))) := by omega
theorem q_2109 {x0 x1 x2 : Int} (h0 : (x0 = (0 : Int))) (h1 : (x1 = x0)) : (((x1 = (0 : Int)) ∧ ((0 : Int) = (0 : Int))) ∨ ((x1 ≠ (0 : Int)) ∧ ((0 : Int) = ((x2 + (1 : Int)) - x1)))) := by omega
theorem q_2110 {x0 : Int} : (((1 : Int) ≤ (1 : Int)) ∧ ((1 : Int) ≤ ((1 : Int) + ((11 : Int) * (x0 - x0))))) := by omega
theorem q_2111 {x0 x1 x2 x3 : Int} (h0 : (((0 : Int) ≤ x0) ∧ ((x0 ≤ x1) ∧ (x1 ≤ (16385 : Int))))) (h1 : ((x2 ≤ x0) ∨ (x2 ≤ x1))) (h2 : (((1 : Int) ≤ x3) ∧ (x3 ≤ ((1 : Int) + ((11 : Int) * (x2 - x0)))))) : (((0 : Int) ≤ ((x3 + (7 : Int)) / (8 : Int))) ∧ (((x3 + (7 : Int)) / (8 : Int)) ≤ (((2 : Int) * (x1 - x0)) + (2 : Int)))) := by omega
theorem q_2112 {x0 x1 x2 : Int} (h0 : (inr x0)) (h1 : (((1 : Int) ≤ x0) ∧ (x0 ≤ ((1 : Int) + ((11 : Int) * (x1 - x2)))))) : (inr ((x0 + (7 : Int)) / (8 : Int))) := by omega
theorem q_2113 {x0 x1 x2 x3 : Int} (h0 : (x0 < x1)) (h1 : (((0 : Int) ≤ x2) ∧ ((x2 ≤ x1) ∧ (x1 ≤ (16385 : Int))))) (h2 : (((1 : Int) ≤ x3) ∧ (x3 ≤ ((1 : Int) + ((11 : Int) * (x0 - x2)))))) : (((0 : Int) ≤ x0) ∧ (x0 < ((16385 : Nat) : Int))) := by omega
theorem q_2114 {x0 x1 x2 x3 : Int} (h0 : (((1 : Int) ≤ x0) ∧ (x0 ≤ ((1 : Int) + ((11 : Int) * (x1 - x2)))))) (h1 : (((0 : Int) ≤ x3) ∧ (x3 ≤ (11 : Int)))) : (((1 : Int) ≤ (x0 + x3)) ∧ ((x0 + x3) ≤ ((1 : Int) + ((11 : Int) * ((x1 + (1 : Int)) - x2))))) := by omega
theorem q_2115 {x0 x1 x2 : Int} (h0 : (((1 : Int) ≤ x0) ∧ (x0 ≤ ((1 : Int) + ((11 : Int) * (x1 - x2)))))) : (x2 ≤ (x1 + (1 : Int))) := by omega
theorem q_2116 {x0 x1 x2 : Int} (h0 : (x0 < x1)) (h1 : (((0 : Int) ≤ x2) ∧ ((x2 ≤ x1) ∧ (x1 ≤ (16385 : Int))))) (h2 : (inr x0)) : (inr (x0 + (1 : Int))) := by omega
theorem q_2117 {x0 x1 x2 x3 x4 : Int} (h0 : (x0 < x1)) (h1 : (((0 : Int) ≤ x2) ∧ ((x2 ≤ x1) ∧ (x1 ≤ (16385 : Int))))) (h2 : (((1 : Int) ≤ x3) ∧ (x3 ≤ ((1 : Int) + ((11 : Int) * (x0 - x2)))))) (h3 : (((0 : Int) ≤ x4) ∧ (x4 ≤ (11 : Int)))) : (inr (x3 + x4)) := by omega
theorem q_2118 {x0 : Int} (h0 : (((0 : Int) ≤ x0) ∧ (x0 ≤ (16385 : Int)))) : ((inr (x0 + (3 : Int))) ∧ ((0 : Int) ≤ (x0 + (3 : Int)))) := by omega
theorem q_2119 {x0 : Int} (h0 : (((0 : Int) ≤ x0) ∧ (x0 ≤ (16385 : Int)))) : (((0 : Int) ≤ (0 : Int)) ∧ (((0 : Int) ≤ ((x0 + (3 : Int)) / (4 : Int))) ∧ (((x0 + (3 : Int)) / (4 : Int)) ≤ (16385 : Int)))) := by omega
theorem q_2120 {x0 : Int} (h0 : (((0 : Int) ≤ x0) ∧ (x0 ≤ (16385 : Int)))) : (inr ((x0 + (3 : Int)) / (4 : Int))) := by omega
theorem q_2121 {x0 : Int} (h0 : (((0 : Int) ≤ x0) ∧ (x0 ≤ (16385 : Int)))) : (((0 : Int) ≤ ((x0 + (3 : Int)) / (4 : Int))) ∧ ((((x0 + (3 : Int)) / (4 : Int)) ≤ ((2 : Int) * ((x0 + (3 : Int)) / (4 : Int)))) ∧ (((2 : Int) * ((x0 + (3 : Int)) / (4 : Int))) ≤ (16385 : Int)))) := by omega
theorem q_2122 {x0 : Int} (h0 : (((0 : Int) ≤ x0) ∧ (x0 ≤ (16385 : Int)))) : (inr ((2 : Int) * ((x0 + (3 : Int)) / (4 : Int)))) := by omega
theorem q_2123 {x0 : Int} (h0 : (((0 : Int) ≤ x0) ∧ (x0 ≤ (16385 : Int)))) : (((0 : Int) ≤ ((2 : Int) * ((x0 + (3 : Int)) / (4 : Int)))) ∧ ((((2 : Int) * ((x0 + (3 : Int)) / (4 : Int))) ≤ ((3 : Int) * ((x0 + (3 : Int)) / (4 : Int)))) ∧ (((3 : Int) * ((x0 + (3 : Int)) / (4 : Int))) ≤ (16385 : Int)))) := by omega
theorem q_2124 {x0 : Int} (h0 : (((0 : Int) ≤ x0) ∧ (x0 ≤ (16385 : Int)))) : (inr ((3 : Int) * ((x0 + (3 : Int)) / (4 : Int)))) := by omega
theorem q_2125 {x0 : Int} (h0 : (((0 : Int) ≤ x0) ∧ (x0 ≤ (16385 : Int)))) : (inr x0) := by omega
theorem q_2126 {x0 x1 x2 x3 x4 : Int} (h0 : (((0 : Int) ≤ x0) ∧ (x0 ≤ (((2 : Int) * (((2 : Int) * ((x1 + (3 : Int)) / (4 : Int))) - ((x1 + (3 : Int)) / (4 : Int)))) + (2 : Int))))) (h1 : (((0 : Int) ≤ x2) ∧ (x2 ≤ (((2 : Int) * (((3 : Int) * ((x1 + (3 : Int)) / (4 : Int))) - ((2 : Int) * ((x1 + (3 : Int)) / (4 : Int))))) + (2 : Int))))) (h2 : (((0 : Int) ≤ x3) ∧ (x3 ≤ (((2 : Int) * (x1 - ((3 : Int) * ((x1 + (3 : Int)) / (4 : Int))))) + (2 : Int))))) (h3 : (((0 : Int) ≤ x4) ∧ (x4 ≤ (((2 : Int) * (((x1 + (3 : Int)) / (4 : Int)) - (0 : Int))) + (2 : Int))))) (h4 : (((0 : Int) ≤ x1) ∧ (x1 ≤ (16385 : Int)))) : (((0 : Int) ≤ (((((6 : Int) + x4) + x0) + x2) + x3)) ∧ ((((((6 : Int) + x4) + x0) + x2) + x3) ≤ (40000 : Int))) := by omega
theorem q_2127 {x0 x1 x2 x3 x4 : Int} (h0 : (((0 : Int) ≤ x0) ∧ (x0 ≤ (((2 : Int) * (((2 : Int) * ((x1 + (3 : Int)) / (4 : Int))) - ((x1 + (3 : Int)) / (4 : Int)))) + (2 : Int))))) (h1 : (((0 : Int) ≤ x2) ∧ (x2 ≤ (((2 : Int) * (((3 : Int) * ((x1 + (3 : Int)) / (4 : Int))) - ((2 : Int) * ((x1 + (3 : Int)) / (4 : Int))))) + (2 : Int))))) (h2 : (((0 : Int) ≤ x3) ∧ (x3 ≤ (((2 : Int) * (x1 - ((3 : Int) * ((x1 + (3 : Int)) / (4 : Int))))) + (2 : Int))))) (h3 : (((0 : Int) ≤ x4) ∧ (x4 ≤ (((2 : Int) * (((x1 + (3 : Int)) / (4 : Int)) - (0 : Int))) + (2 : Int))))) (h4 : (((0 : Int) ≤ x1) ∧ (x1 ≤ (16385 : Int)))) : (inr (((((6 : Int) + x4) + x0) + x2) + x3)) := by omega
theorem q_2128 : (inr (1024 : Int)) := by omega
theorem q_2129 {x0 x1 : Int} (h0 : (((-(2 : Int)) ≤ x0) ∧ (x0 ≤ (20000 : Int)))) (h1 : (((0 : Int) ≤ x1) ∧ (x1 ≤ (40000 : Int)))) : ((x0 ≤ (x0 + x1)) ∧ ((x0 + x1) ≤ (70000 : Int))) := by omega
theorem q_2130 {x0 x1 : Int} (h0 : (((-(2 : Int)) ≤ x0) ∧ (x0 ≤ (20000 : Int)))) (h1 : (((0 : Int) ≤ x1) ∧ (x1 ≤ (40000 : Int)))) : (inr (x0 + x1)) := by omega
theorem q_2131 {x0 : Int} (h0 : (((0 : Int) ≤ x0) ∧ (x0 ≤ (16385 : Int)))) : (((0 : Int) ≤ (0 : Int)) ∧ (((0 : Int) ≤ x0) ∧ (x0 ≤ (16385 : Int)))) := by omega
theorem q_2132 {x0 : Int} (h0 : (x0 < (1024 : Int))) (h1 : (((0 : Int) ≤ x0) ∧ (x0 ≤ (16385 : Int)))) : (inr x0) := by omega
theorem q_2133 {x0 x1 x2 : Int} (h0 : (x0 < (1024 : Int))) (h1 : (((-(2 : Int)) ≤ x1) ∧ (x1 ≤ (20000 : Int)))) (h2 : (((0 : Int) ≤ x2) ∧ (x2 ≤ (((2 : Int) * (x0 - (0 : Int))) + (2 : Int))))) : ((x1 ≤ (x1 + x2)) ∧ ((x1 + x2) ≤ (70000 : Int))) := by omega
theorem q_2134 {x0 x1 x2 : Int} (h0 : (x0 < (1024 : Int))) (h1 : (((-(2 : Int)) ≤ x1) ∧ (x1 ≤ (20000 : Int)))) (h2 : (((0 : Int) ≤ x2) ∧ (x2 ≤ (((2 : Int) * (x0 - (0 : Int))) + (2 : Int))))) : (inr (x1 + x2)) := by omega
theorem q_2135 : (((10 : Int) ≤ (18 : Int)) ∧ ((18 : Int) ≤ (18 : Int))) := by omega
theorem q_2136 {x0 : Int} (h0 : (x0 = (2 : Int))) : (((x0 < (2 : Int)) ∧ ((14 : Int) = (10 : Int))) ∨ (((x0 = (2 : Int)) ∧ ((14 : Int) = (14 : Int))) ∨ (((2 : Int) < x0) ∧ ((14 : Int) = (18 : Int))))) := by omega
theorem q_2137 : (((10 : Int) ≤ (14 : Int)) ∧ ((14 : Int) ≤ (18 : Int))) := by omega
theorem q_2138 {x0 : Int} (h0 : (x0 < (2 : Int))) : (((x0 < (2 : Int)) ∧ ((10 : Int) = (10 : Int))) ∨ (((x0 = (2 : Int)) ∧ ((10 : Int) = (14 : Int))) ∨ (((2 : Int) < x0) ∧ ((10 : Int) = (18 : Int))))) := by omega
theorem q_2139 : (((10 : Int) ≤ (10 : Int)) ∧ ((10 : Int) ≤ (18 : Int))) := by omega
theorem q_2140 : (((3 : Int) ≤ (5 : Int)) ∧ ((5 : Int) ≤ (5 : Int))) := by omega
theorem q_2141 {x0 : Int} (h0 : (x0 = (2 : Int))) : (((x0 < (2 : Int)) ∧ ((4 : Int) = (3 : Int))) ∨ (((x0 = (2 : Int)) ∧ ((4 : Int) = (4 : Int))) ∨ (((2 : Int) < x0) ∧ ((4 : Int) = (5 : Int))))) := by omega
theorem q_2142 : (((3 : Int) ≤ (4 : Int)) ∧ ((4 : Int) ≤ (5 : Int))) := by omega
theorem q_2143 {x0 : Int} (h0 : (x0 < (2 : Int))) : (((x0 < (2 : Int)) ∧ ((3 : Int) = (3 : Int))) ∨ (((x0 = (2 : Int)) ∧ ((3 : Int) = (4 : Int))) ∨ (((2 : Int) < x0) ∧ ((3 : Int) = (5 : Int))))) := by omega
theorem q_2144 : (((3 : Int) ≤ (3 : Int)) ∧ ((3 : Int) ≤ (5 : Int))) := by omega
theorem q_2145 {x0 : Int} : (((1 : Int) ≤ (3 : Int)) ∨ ((262144 : Int) ≤ x0)) := by omega
theorem q_2146 {x0 x1 : Int} : (((1 : Int) ≤ (2 : Int)) ∨ (((16384 : Int) ≤ x0) ∨ ((16384 : Int) ≤ x1))) := by omega
theorem q_2147 : (((1 : Int) ≤ (1 : Int)) ∧ ((1 : Int) ≤ (4 : Int))) := by omega
theorem q_2148 : (((-(1 : Int)) ≤ (-(1 : Int))) ∧ ((-(1 : Int)) ≤ (3 : Int))) := by omega
theorem q_2149 {x0 : Int} (h0 : (((10 : Int) ≤ x0) ∧ (x0 ≤ (18 : Int)))) : (((0 : Int) ≤ x0) ∧ (x0 ≤ (31 : Int))) := by omega
theorem q_2150 {x0 : Int} (h0 : ((1024 : Int) ≤ x0)) (h1 : (((0 : Int) ≤ x0) ∧ (x0 ≤ (16385 : Int)))) : (inr x0) := by omega
theorem q_2151 {x0 : Int} (h0 : (x0 < (4 : Int))) (h1 : (((1 : Int) ≤ x0) ∧ (x0 ≤ (4 : Int)))) : (((1 : Int) ≤ (x0 + (1 : Int))) ∧ ((x0 + (1 : Int)) ≤ (4 : Int))) := by omega
theorem q_2152 {x0 : Int} (h0 : (x0 < (4 : Int))) (h1 : (((1 : Int) ≤ x0) ∧ (x0 ≤ (4 : Int)))) : (inr (x0 + (1 : Int))) := by omega
theorem q_2153 {x0 : Int} (h0 : (x0 < (4 : Int))) (h1 : (((1 : Int) ≤ x0) ∧ (x0 ≤ (4 : Int)))) : (((-(1 : Int)) ≤ x0) ∧ (x0 ≤ (3 : Int))) := by omega
theorem q_2154 {x0 x1 : Int} (h0 : ((1024 : Int) ≤ x0)) (h1 : (x1 < (1024 : Int))) : ((((-(1 : Int)) = (0 : Int)) ∧ ((x1 < (1024 : Int)) ∧ (x0 < (1024 : Int)))) ∨ ((((-(1 : Int)) = (-(1 : Int))) ∧ ((x1 < (1024 : Int)) ∧ ((1024 : Int) ≤ x0))) ∨ ((((-(1 : Int)) = (2 : Int)) ∧ (((1024 : Int) ≤ x1) ∧ ((x1 < (16384 : Int)) ∧ (x0 < (16384 : Int))))) ∨ ((((-(1 : Int)) = (3 : Int)) ∧ (((1024 : Int) ≤ x1) ∧ ((((16384 : Int) ≤ x1) ∨ ((16384 : Int) ≤ x0)) ∧ (x0 < (262144 : Int))))) ∨ (((-(1 : Int)) = (-(1 : Int))) ∧ (((1024 : Int) ≤ x1) ∧ ((262144 : Int) ≤ x0))))))) := by omega
theorem q_2155 {x0 x1 : Int} (h0 : (x0 < (1024 : Int))) (h1 : (x1 < (1024 : Int))) : ((((0 : Int) = (0 : Int)) ∧ ((x1 < (1024 : Int)) ∧ (x0 < (1024 : Int)))) ∨ ((((0 : Int) = (-(1 : Int))) ∧ ((x1 < (1024 : Int)) ∧ ((1024 : Int) ≤ x0))) ∨ ((((0 : Int) = (2 : Int)) ∧ (((1024 : Int) ≤ x1) ∧ ((x1 < (16384 : Int)) ∧ (x0 < (16384 : Int))))) ∨ ((((0 : Int) = (3 : Int)) ∧ (((1024 : Int) ≤ x1) ∧ ((((16384 : Int) ≤ x1) ∨ ((16384 : Int) ≤ x0)) ∧ (x0 < (262144 : Int))))) ∨ (((0 : Int) = (-(1 : Int))) ∧ (((1024 : Int) ≤ x1) ∧ ((262144 : Int) ≤ x0))))))) := by omega
theorem q_2156 : (((-(1 : Int)) ≤ (0 : Int)) ∧ ((0 : Int) ≤ (3 : Int))) := by omega
theorem q_2157 {x0 : Int} {p0 : Prop} (h0 : (((0 : Int) ≤ x0) ∧ (x0 ≤ (16385 : Int)))) : (((0 : Int) ≤ ((0 : Int) + ((x0 + (1 : Int)) - (1 : Int)))) ∨ p0) := by omega
theorem q_2158 {x0 : Int} (h0 : (((0 : Int) ≤ x0) ∧ (x0 ≤ (16385 : Int)))) : (((0 : Int) = (1 : Int)) → ((1 : Int) ≤ x0)) := by omega
theorem q_2159 {x0 : Int} (h0 : ((0 : Int) < x0)) : (((1 : Int) = (1 : Int)) → ((1 : Int) ≤ x0)) := by omega
theorem q_2160 {x0 x1 : Int} (h0 : (x0 < x1)) (h1 : ((1 : Int) ≤ x0)) (h2 : (((0 : Int) ≤ x1) ∧ (x1 ≤ (16385 : Int)))) : (((0 : Int) ≤ x0) ∧ (x0 < ((16385 : Nat) : Int))) := by omega
theorem q_2161 : (((0 : Int) ≤ (0 : Int)) ∧ ((0 : Int) < ((16385 : Nat) : Int))) := by omega
theorem q_2162 {x0 x1 : Int} {p0 : Prop} (h0 : (x0 < x1)) : (((0 : Int) ≤ ((0 : Int) + ((x1 + (1 : Int)) - (x0 + (1 : Int))))) ∨ p0) := by omega
theorem q_2163 {x0 x1 : Int} (h0 : (x0 < x1)) (h1 : ((1 : Int) ≤ x0)) (h2 : (((0 : Int) ≤ x1) ∧ (x1 ≤ (16385 : Int)))) : (inr (x0 + (1 : Int))) := by omega
theorem q_2164 {x0 x1 : Int} (h0 : (x0 < x1)) : ((0 : Int) < ((x1 + (1 : Int)) - x0)) := by omega
theorem q_2165 {x0 : Int} (h0 : (((0 : Int) ≤ x0) ∧ (x0 ≤ (11 : Int)))) : (((0 : Int) = (1 : Int)) → ((1 : Int) ≤ x0)) := by omega
theorem q_2166 {x0 x1 : Int} (h0 : (x0 < x1)) (h1 : ((0 : Int) ≤ x0)) (h2 : (((0 : Int) ≤ x1) ∧ (x1 ≤ (16385 : Int)))) : (((0 : Int) ≤ x0) ∧ (x0 < ((16385 : Nat) : Int))) := by omega
theorem q_2167 {x0 x1 : Int} (h0 : (x0 < x1)) (h1 : ((0 : Int) ≤ x0)) (h2 : (((0 : Int) ≤ x1) ∧ (x1 ≤ (16385 : Int)))) : (inr (x0 + (1 : Int))) := by omega
theorem q_2168 {x0 : Int} (h0 : (((0 : Int) ≤ x0) ∧ (x0 ≤ (80000000 : Int)))) (h1 : (((0 : Int) ≤ x0) ∧ (x0 ≤ (100000000 : Int)))) : (((0 : Int) ≤ x0) ∧ (x0 ≤ (90000000 : Int))) := by omega
theorem q_2169 {x0 : Int} (h0 : (((3 : Int) ≤ x0) ∧ (x0 ≤ (5 : Int)))) : (((0 : Int) ≤ x0) ∧ (x0 ≤ (8 : Int))) := by omega
theorem q_2170 {x0 x1 x2 : Int} (h0 : (((3 : Int) ≤ x0) ∧ (x0 ≤ (5 : Int)))) (h1 : (x1 = (x2 + x0))) : ((x2 ≤ x1) ∧ (x1 ≤ (x2 + (5 : Int)))) := by omega
theorem q_2171 {x0 : Int} (h0 : (((0 : Int) ≤ x0) ∧ (x0 ≤ (80000000 : Int)))) : (((0 : Int) ≤ x0) ∧ (x0 ≤ (100000000 : Int))) := by omega
theorem q_2173 {x0 : Int} (h0 : (((0 : Int) ≤ x0) ∧ (x0 ≤ (80000000 : Int)))) : (((0 : Int) ≤ x0) ∧ (x0 ≤ (90000000 : Int))) := by omega
theorem q_2174 : (((0 : Int) ≤ (3 : Int)) ∧ ((3 : Int) ≤ (8 : Int))) := by omega
theorem q_2176 {x0 x1 x2 : Int} (h0 : (x0 ≤ x1)) (h1 : (x1 = (x2 + (3 : Int)))) : ((x0 ≤ x1) ∧ (((x2 + (3 : Int)) ≤ x1) ∧ ((x1 = x0) ∨ (x1 = (x2 + (3 : Int)))))) := by omega
theorem q_2177 {x0 x1 x2 : Int} (h0 : (x0 < x1)) (h1 : (x0 = (x2 + (3 : Int)))) : ((x1 ≤ x1) ∧ (((x2 + (3 : Int)) ≤ x1) ∧ ((x1 = x1) ∨ (x1 = (x2 + (3 : Int)))))) := by omega
theorem q_2180 {x0 x1 : Int} (h0 : (((0 : Int) ≤ x0) ∧ (x0 ≤ x1))) (h1 : (((0 : Int) ≤ x1) ∧ (x1 ≤ (65536 : Int)))) : (inr (x1 - x0)) := by omega
theorem q_2181 {x0 x1 : Int} (h0 : ((x0 - x1) < (8 : Int))) (h1 : (((0 : Int) ≤ x1) ∧ (x1 ≤ x0))) : (inr (x0 - x1)) := by omega
theorem q_2182 {x0 x1 : Int} (h0 : (x0 < x1)) (h1 : (((0 : Int) ≤ x0) ∧ (x0 ≤ x1))) (h2 : (((0 : Int) ≤ x1) ∧ (x1 ≤ (65536 : Int)))) : (((0 : Int) ≤ x0) ∧ (x0 < ((65536 : Nat) : Int))) := by omega
theorem q_2183 {x0 x1 : Int} (h0 : (x0 < x1)) (h1 : (((0 : Int) ≤ x0) ∧ (x0 ≤ x1))) (h2 : (((0 : Int) ≤ x1) ∧ (x1 ≤ (65536 : Int)))) : (inr (x0 + (1 : Int))) := by omega
theorem q_2184 {x0 x1 : Int} (h0 : ((4 : Int) ≤ (x0 - x1))) (h1 : (((0 : Int) ≤ x1) ∧ (x1 ≤ x0))) (h2 : (((0 : Int) ≤ x0) ∧ (x0 ≤ (65536 : Int)))) : (((0 : Int) ≤ x1) ∧ (((0 : Int) ≤ (4 : Int)) ∧ (((4 : Int) ≤ (8 : Int)) ∧ ((x1 + (4 : Int)) ≤ (65536 : Int))))) := by omega
theorem q_2185 {x0 x1 : Int} (h0 : ((4 : Int) ≤ (x0 - x1))) (h1 : (((0 : Int) ≤ x1) ∧ (x1 ≤ x0))) : (((0 : Int) ≤ (x1 + (4 : Int))) ∧ ((x1 + (4 : Int)) ≤ x0)) := by omega
theorem q_2186 {x0 x1 : Int} (h0 : ((4 : Int) ≤ (x0 - x1))) (h1 : (((0 : Int) ≤ x1) ∧ (x1 ≤ x0))) (h2 : (((0 : Int) ≤ x0) ∧ (x0 ≤ (65536 : Int)))) : (inr (x1 + (4 : Int))) := by omega
theorem q_2187 {x0 x1 : Int} (h0 : ((8 : Int) ≤ (x0 - x1))) (h1 : (((0 : Int) ≤ x1) ∧ (x1 ≤ x0))) (h2 : (((0 : Int) ≤ x0) ∧ (x0 ≤ (65536 : Int)))) : (((0 : Int) ≤ x1) ∧ (((0 : Int) ≤ (8 : Int)) ∧ (((8 : Int) ≤ (8 : Int)) ∧ ((x1 + (8 : Int)) ≤ (65536 : Int))))) := by omega
theorem q_2188 {x0 x1 : Int} (h0 : ((8 : Int) ≤ (x0 - x1))) (h1 : (((0 : Int) ≤ x1) ∧ (x1 ≤ x0))) : (((0 : Int) ≤ (x1 + (8 : Int))) ∧ ((x1 + (8 : Int)) ≤ x0)) := by omega
theorem q_2189 {x0 x1 : Int} (h0 : ((8 : Int) ≤ (x0 - x1))) (h1 : (((0 : Int) ≤ x1) ∧ (x1 ≤ x0))) (h2 : (((0 : Int) ≤ x0) ∧ (x0 ≤ (65536 : Int)))) : (inr (x1 + (8 : Int))) := by omega
theorem q_2190 {x0 : Int} : (x0 = (x0 + ((8 : Int) * (0 : Int)))) := by omega
theorem q_2191 {x0 x1 x2 x3 : Int} (h0 : ((4 : Int) ≤ x0)) (h1 : (x1 = (x2 + ((8 : Int) * x0)))) : ((x3 - x1) < (x3 - x2)) := by omega
theorem q_2192 {x0 x1 x2 x3 : Int} (h0 : (x0 < (4 : Int))) (h1 : ((32 : Int) ≤ (x1 - x2))) (h2 : (((0 : Int) ≤ x2) ∧ (x2 ≤ x1))) (h3 : ((0 : Int) ≤ x0)) (h4 : (x3 = (x2 + ((8 : Int) * x0)))) (h5 : (((0 : Int) ≤ x1) ∧ (x1 ≤ (65536 : Int)))) : (((0 : Int) ≤ x3) ∧ (((0 : Int) ≤ (8 : Int)) ∧ (((8 : Int) ≤ (8 : Int)) ∧ ((x3 + (8 : Int)) ≤ (65536 : Int))))) := by omega
theorem q_2193 {x0 x1 x2 : Int} (h0 : (x0 = (x1 + ((8 : Int) * x2)))) : ((x0 + (8 : Int)) = (x1 + ((8 : Int) * (x2 + (1 : Int))))) := by omega
theorem q_2194 {x0 x1 x2 x3 : Int} (h0 : (x0 < (4 : Int))) (h1 : ((32 : Int) ≤ (x1 - x2))) (h2 : (inr x3)) (h3 : (x3 = (x2 + ((8 : Int) * x0)))) (h4 : (((0 : Int) ≤ x1) ∧ (x1 ≤ (65536 : Int)))) : (inr (x3 + (8 : Int))) := by omega
theorem q_2196 {x0 x1 x2 : Int} : (((0 : Int) = (0 : Int)) ∨ (x0 = ((x1 + (1 : Int)) - x2))) := by omega
theorem q_2197 {x0 x1 : Int} (h0 : (x0 ≤ x1)) (h1 : (inr x1)) (h2 : ((1 : Int) ≤ x0)) : (inr ((x1 + (1 : Int)) - x0)) := by omega
theorem q_2198 {x0 x1 x2 x3 x4 : Int} (h0 : (x0 = ((x1 + (1 : Int)) - x2))) (h1 : (x3 = x0)) : (((x4 + (1 : Int)) = (0 : Int)) ∨ (x3 = ((x1 + (1 : Int)) - x2))) := by omega
theorem q_2199 {x0 x1 : Int} : ((x0 ≤ x0) ∧ (x0 ≤ (x0 + ((11 : Int) * ((x1 - (1 : Int)) - (x1 - (1 : Int))))))) := by omega
theorem q_2200 {x0 x1 : Int} (h0 : (((0 : Int) ≤ x0) ∧ ((x0 ≤ x1) ∧ (x1 ≤ (16385 : Int))))) : ((x0 - (1 : Int)) ≤ (x1 - (1 : Int))) := by omega
theorem q_2201 {x0 x1 : Int} : (((x0 - (1 : Int)) ≤ (x0 - (1 : Int))) ∨ ((x1 - (1 : Int)) ≤ (x0 - (1 : Int)))) := by omega
theorem q_2202 {x0 x1 : Int} (h0 : (((0 : Int) ≤ x0) ∧ ((x0 ≤ x1) ∧ (x1 ≤ (16385 : Int))))) : (inr (x1 - (1 : Int))) := by omega
theorem q_2203 {x0 x1 x2 x3 x4 : Int} (h0 : (((0 : Int) ≤ x0) ∧ ((x0 ≤ x1) ∧ (x1 ≤ (16385 : Int))))) (h1 : (((0 : Int) ≤ x2) ∧ (x2 ≤ (1000000 : Int)))) (h2 : ((x0 - (1 : Int)) ≤ x3)) (h3 : ((x2 ≤ x4) ∧ (x4 ≤ (x2 + ((11 : Int) * ((x1 - (1 : Int)) - x3)))))) (h4 : (((0 : Int) ≤ x4) ∧ (x4 ≤ (100000000 : Int)))) : (((0 : Int) ≤ x4) ∧ (x4 ≤ (90000000 : Int))) := by omega
theorem q_2204 : (((0 : Int) ≤ (1 : Int)) ∧ ((1 : Int) ≤ (31 : Int))) := by omega
theorem q_2205 {x0 x1 x2 x3 x4 x5 : Int} (h0 : (((0 : Int) ≤ x0) ∧ ((x0 ≤ x1) ∧ (x1 ≤ (16385 : Int))))) (h1 : (((0 : Int) ≤ x2) ∧ (x2 ≤ (1000000 : Int)))) (h2 : ((x0 - (1 : Int)) ≤ x3)) (h3 : ((x2 ≤ x4) ∧ (x4 ≤ (x2 + ((11 : Int) * ((x1 - (1 : Int)) - x3)))))) (h4 : (x5 = (x4 + (1 : Int)))) (h5 : (((0 : Int) ≤ x5) ∧ (x5 ≤ (100000000 : Int)))) : (((0 : Int) ≤ x5) ∧ (x5 ≤ (99000000 : Int))) := by omega
theorem q_2206 {x0 x1 x2 x3 x4 x5 x6 : Int} (h0 : (((0 : Int) ≤ x0) ∧ (x0 ≤ (1000000 : Int)))) (h1 : ((x1 - (1 : Int)) ≤ x2)) (h2 : ((x0 ≤ x3) ∧ (x3 ≤ (x0 + ((11 : Int) * ((x4 - (1 : Int)) - x2)))))) (h3 : ((x5 ≤ x6) ∧ (x6 ≤ (x5 + (7 : Int))))) (h4 : (x5 = (x3 + (1 : Int)))) (h5 : (((0 : Int) ≤ x6) ∧ (x6 ≤ (100000000 : Int)))) : ((x0 ≤ x6) ∧ (x6 ≤ ((x0 + ((11 : Int) * (x4 - x1))) + (8 : Int)))) := by omega
theorem q_2207 {x0 x1 x2 x3 x4 : Int} (h0 : (x0 ≤ x1)) (h1 : (((0 : Int) ≤ x0) ∧ ((x0 ≤ x2) ∧ (x2 ≤ (16385 : Int))))) (h2 : ((x3 ≤ x4) ∧ (x4 ≤ (x3 + ((11 : Int) * ((x2 - (1 : Int)) - x1)))))) : (((0 : Int) ≤ x1) ∧ (x1 < ((16385 : Nat) : Int))) := by omega
theorem q_2208 {x0 x1 x2 x3 x4 : Int} (h0 : (x0 ≤ x1)) (h1 : (((0 : Int) ≤ x0) ∧ ((x0 ≤ x2) ∧ (x2 ≤ (16385 : Int))))) (h2 : (((0 : Int) ≤ x3) ∧ (x3 ≤ (1000000 : Int)))) (h3 : ((x3 ≤ x4) ∧ (x4 ≤ (x3 + ((11 : Int) * ((x2 - (1 : Int)) - x1)))))) (h4 : (((0 : Int) ≤ x4) ∧ (x4 ≤ (100000000 : Int)))) : (((0 : Int) ≤ x4) ∧ (x4 ≤ (90000000 : Int))) := by omega
theorem q_2209 {x0 : Int} (h0 : (((0 : Int) ≤ x0) ∧ (x0 ≤ (11 : Int)))) : (((0 : Int) ≤ x0) ∧ (x0 ≤ (31 : Int))) := by omega
theorem q_2210 {x0 x1 x2 x3 x4 x5 : Int} (h0 : ((x0 ≤ x1) ∧ (x1 ≤ (x0 + ((11 : Int) * ((x2 - (1 : Int)) - x3)))))) (h1 : (x4 = (x1 + x5))) (h2 : (((0 : Int) ≤ x5) ∧ (x5 ≤ (11 : Int)))) : ((x0 ≤ x4) ∧ (x4 ≤ (x0 + ((11 : Int) * ((x2 - (1 : Int)) - (x3 + (-(1 : Int)))))))) := by omega
theorem q_2211 {x0 x1 : Int} (h0 : (x0 ≤ x1)) : ((x0 - (1 : Int)) ≤ (x1 + (-(1 : Int)))) := by omega
theorem q_2212 {x0 x1 x2 : Int} (h0 : (x0 ≤ x1)) : (((x2 - (1 : Int)) ≤ (x1 + (-(1 : Int)))) ∨ ((x0 - (1 : Int)) ≤ (x1 + (-(1 : Int))))) := by omega
theorem q_2213 {x0 x1 x2 x3 : Int} (h0 : ((x0 ≤ x1) ∧ (x1 ≤ (x0 + ((11 : Int) * ((x2 - (1 : Int)) - x3)))))) : ((x3 + (-(1 : Int))) ≤ (x2 - (1 : Int))) := by omega
theorem q_2214 {x0 x1 x2 : Int} (h0 : (x0 ≤ x1)) (h1 : (((0 : Int) ≤ x0) ∧ ((x0 ≤ x2) ∧ (x2 ≤ (16385 : Int))))) (h2 : (inr x1)) : (inr (x1 + (-(1 : Int)))) := by omega
theorem q_2215 {x0 x1 : Int} : (((x0 + (-(1 : Int))) - (x1 - (1 : Int))) < (x0 - (x1 - (1 : Int)))) := by omega
theorem q_2216 {x0 x1 : Int} (h0 : (x0 ≤ x1)) : ((0 : Int) < (x1 - (x0 - (1 : Int)))) := by omega
theorem q_2217 {x0 : Int} : (x0 = (x0 + ((16 : Int) * (0 : Int)))) := by omega
theorem q_2218 {x0 x1 : Int} : ((x0 ≤ x0) ∧ (x0 ≤ ((x0 + ((11 : Int) * ((0 : Int) * ((x1 + (3 : Int)) / (4 : Int))))) + ((8 : Int) * (0 : Int))))) := by omega
theorem q_2219 {x0 x1 x2 : Int} (h0 : (x0 < (3 : Int))) (h1 : (((0 : Int) ≤ x1) ∧ (x1 ≤ (1000 : Int)))) (h2 : (x2 = (x1 + ((16 : Int) * x0)))) (h3 : (((0 : Int) ≤ x2) ∧ (x2 ≤ (100000000 : Int)))) : (((0 : Int) ≤ x2) ∧ (x2 ≤ (90000000 : Int))) := by omega
theorem q_2220 : (((0 : Int) ≤ (16 : Int)) ∧ ((16 : Int) ≤ (31 : Int))) := by omega
theorem q_2221 {x0 x1 x2 x3 : Int} (h0 : (x0 = (x1 + ((16 : Int) * x2)))) (h1 : (x3 = (x0 + (16 : Int)))) : (x3 = (x1 + ((16 : Int) * (x2 + (1 : Int))))) := by omega
theorem q_2222 {x0 : Int} (h0 : (x0 < (3 : Int))) (h1 : ((0 : Int) ≤ x0)) : (((-(2147483648 : Int)) ≤ ((4 : Int) * x0)) ∧ (((4 : Int) * x0) ≤ (2147483647 : Int))) := by omega
theorem q_2223 : (((-(2147483648 : Int)) ≤ (1 : Int)) ∧ ((1 : Int) ≤ (2147483647 : Int))) := by omega
theorem q_2224 {x0 x1 x2 : Int} : (((-(1 : Int)) = (-(1 : Int))) ∨ (((0 : Int) ≤ (-(1 : Int))) ∧ (((-(1 : Int)) < (0 : Int)) ∧ (((-(1 : Int)) ≠ x0) ∧ (((0 : Int) < x1) ∧ (x2 < (0 : Int))))))) := by omega
theorem q_2225 {x0 : Int} (h0 : (((0 : Int) ≤ x0) ∧ (x0 ≤ (512 : Int)))) : (inr x0) := by omega
theorem q_2226 {x0 x1 : Int} (h0 : (x0 < x1)) (h1 : ((0 : Int) ≤ x0)) (h2 : (((0 : Int) ≤ x1) ∧ (x1 ≤ (512 : Int)))) : (inr (x0 + (1 : Int))) := by omega
theorem q_2227 {x0 x1 : Int} (h0 : (x0 < x1)) (h1 : ((0 : Int) ≤ x0)) (h2 : (((0 : Int) ≤ x1) ∧ (x1 ≤ (512 : Int)))) : (((0 : Int) ≤ x0) ∧ (x0 < ((512 : Nat) : Int))) := by omega
theorem q_2228 {x0 x1 x2 x3 x4 x5 : Int} (h0 : (x0 ≠ x1)) (h1 : ((0 : Int) < x2)) (h2 : (x3 < (0 : Int))) (h3 : (x4 = x2)) (h4 : (x5 = x3)) (h5 : ((0 : Int) ≤ x0)) : ((x0 = (-(1 : Int))) ∨ (((0 : Int) ≤ x0) ∧ ((x0 < (x0 + (1 : Int))) ∧ ((x0 ≠ x1) ∧ (((0 : Int) < x4) ∧ (x5 < (0 : Int))))))) := by omega
theorem q_2229 {x0 x1 x2 x3 x4 x5 : Int} (h0 : (x0 < x1)) (h1 : ((0 : Int) ≤ x2)) (h2 : ((x2 = (-(1 : Int))) ∨ (((0 : Int) ≤ x2) ∧ ((x2 < x0) ∧ ((x2 ≠ x3) ∧ (((0 : Int) < x4) ∧ (x5 < (0 : Int)))))))) (h3 : (((0 : Int) ≤ x1) ∧ (x1 ≤ (512 : Int)))) : (((0 : Int) ≤ x2) ∧ (x2 < ((512 : Nat) : Int))) := by omega
theorem q_2230 : (((0 : Int) ≤ (256 : Int)) ∧ ((256 : Int) ≤ (512 : Int))) := by omega
theorem q_2231 : ((-(1 : Int)) ≤ (-(1 : Int))) := by omega
theorem q_2232 {x0 x1 x2 : Int} (h0 : ((x0 = (-(1 : Int))) ∨ (((0 : Int) ≤ x0) ∧ ((x0 < (256 : Int)) ∧ ((x0 ≠ (-(1 : Int))) ∧ (((0 : Int) < x1) ∧ (x2 < (0 : Int)))))))) : ((-(1 : Int)) ≤ x0) := by omega
theorem q_2233 : ((256 : Int) ≤ (256 : Int)) := by omega
theorem q_2234 {x0 : Int} (h0 : ((0 : Int) ≤ x0)) : (((0 : Int) ≤ x0) ∨ ((257 : Int) ≤ (256 : Int))) := by omega
theorem q_2235 {x0 x1 : Int} (h0 : ((0 : Int) ≤ x0)) (h1 : ((0 : Int) ≤ x1)) : (((-(1 : Int)) ≤ x0) ∧ ((-(1 : Int)) ≤ x1)) := by omega
theorem q_2236 {x0 x1 x2 x3 x4 x5 x6 : Int} (h0 : (((0 : Int) ≤ x0) ∨ ((257 : Int) ≤ x1))) (h1 : (((-(1 : Int)) ≤ x2) ∧ ((-(1 : Int)) ≤ x0))) (h2 : ((x0 < (0 : Int)) ∨ (((0 : Int) ≤ x2) ∧ ((x2 < x1) ∧ (((0 : Int) < x3) ∧ ((x4 < (0 : Int)) ∧ (((0 : Int) ≤ x0) ∧ ((x0 < x1) ∧ ((x0 ≠ x2) ∧ (((0 : Int) < x5) ∧ (x6 < (0 : Int)))))))))))) (h3 : (((0 : Int) ≤ x1) ∧ (x1 ≤ (512 : Int)))) : (inr x0) := by omega
theorem q_2237 : (((0 : Int) ≤ (0 : Int)) ∧ ((0 : Int) ≤ (600 : Int))) := by omega
theorem q_2238 {x0 : Int} (h0 : (x0 < (256 : Int))) (h1 : ((0 : Int) ≤ x0)) : (((0 : Int) ≤ x0) ∧ (x0 < ((512 : Nat) : Int))) := by omega
theorem q_2239 {x0 : Int} (h0 : (x0 = (0 : Int))) : ((0 : Int) ≤ x0) := by omega
theorem q_2240 {x0 : Int} : (((-(1 : Int)) ≤ x0) ∨ (x0 < (0 : Int))) := by omega
theorem q_2241 {x0 x1 : Int} (h0 : ((0 : Int) ≤ x0)) (h1 : (x0 < x1)) (h2 : (((0 : Int) ≤ x1) ∧ (x1 ≤ (512 : Int)))) : (((0 : Int) ≤ x0) ∧ (x0 < ((512 : Nat) : Int))) := by omega
theorem q_2242 {x0 x1 x2 : Int} (h0 : ((x0 + (1 : Int)) = (x1 + (1 : Int)))) (h1 : (x2 = (x0 + (1 : Int)))) (h2 : ((0 : Int) ≤ x1)) : ((0 : Int) ≤ x2) := by omega
theorem q_2243 {x0 x1 x2 x3 x4 x5 x6 : Int} (h0 : ((0 : Int) ≤ x0)) (h1 : ((x1 = (-(1 : Int))) ∨ (((0 : Int) ≤ x1) ∧ ((x1 < x2) ∧ (((0 : Int) < x3) ∧ (x4 < (0 : Int))))))) (h2 : (((-(1 : Int)) ≤ x1) ∧ ((-(1 : Int)) ≤ x0))) (h3 : ((x0 < (0 : Int)) ∨ (((0 : Int) ≤ x1) ∧ ((x1 < x2) ∧ (((0 : Int) < x3) ∧ ((x4 < (0 : Int)) ∧ (((0 : Int) ≤ x0) ∧ ((x0 < x2) ∧ ((x0 ≠ x1) ∧ (((0 : Int) < x5) ∧ (x6 < (0 : Int)))))))))))) (h4 : (((0 : Int) ≤ x2) ∧ (x2 ≤ (512 : Int)))) : (((0 : Int) ≤ x1) ∧ (x1 < ((512 : Nat) : Int))) := by omega
theorem q_2244 {x0 x1 x2 x3 x4 x5 x6 : Int} (h0 : ((0 : Int) ≤ x0)) (h1 : (((0 : Int) ≤ x0) ∨ ((257 : Int) ≤ x1))) (h2 : ((x0 < (0 : Int)) ∨ (((0 : Int) ≤ x2) ∧ ((x2 < x1) ∧ (((0 : Int) < x3) ∧ ((x4 < (0 : Int)) ∧ (((0 : Int) ≤ x0) ∧ ((x0 < x1) ∧ ((x0 ≠ x2) ∧ (((0 : Int) < x5) ∧ (x6 < (0 : Int)))))))))))) (h3 : (((0 : Int) ≤ x1) ∧ (x1 ≤ (512 : Int)))) : (((0 : Int) ≤ x0) ∧ (x0 < ((512 : Nat) : Int))) := by omega
theorem q_2245 {x0 : Int} (h0 : (((0 : Int) ≤ x0) ∧ (x0 ≤ (512 : Int)))) : (((-(2147483648 : Int)) ≤ x0) ∧ (x0 ≤ (2147483647 : Int))) := by omega
theorem q_2246 {x0 x1 x2 x3 : Int} (h0 : ((x0 = (-(1 : Int))) ∨ (((0 : Int) ≤ x0) ∧ ((x0 < (x1 + (1 : Int))) ∧ ((x0 ≠ (-(1 : Int))) ∧ (((0 : Int) < x2) ∧ (x3 < (0 : Int)))))))) : ((-(1 : Int)) ≤ x0) := by omega
theorem q_2247 {x0 : Int} (h0 : ((256 : Int) ≤ x0)) (h1 : (((0 : Int) ≤ x0) ∧ (x0 ≤ (512 : Int)))) : ((256 : Int) ≤ (x0 + (1 : Int))) := by omega
theorem q_2248 {x0 x1 : Int} (h0 : ((256 : Int) ≤ x0)) : (((0 : Int) ≤ x1) ∨ ((257 : Int) ≤ (x0 + (1 : Int)))) := by omega
theorem q_2249 {x0 x1 x2 x3 x4 x5 x6 : Int} (h0 : (((0 : Int) ≤ x0) → ((0 : Int) ≤ x1))) (h1 : ((x1 = (-(1 : Int))) ∨ (((0 : Int) ≤ x1) ∧ ((x1 < (x2 + (1 : Int))) ∧ ((x1 ≠ (-(1 : Int))) ∧ (((0 : Int) < x3) ∧ (x4 < (0 : Int)))))))) (h2 : ((x0 = (-(1 : Int))) ∨ (((0 : Int) ≤ x0) ∧ ((x0 < (x2 + (1 : Int))) ∧ ((x0 ≠ x1) ∧ (((0 : Int) < x5) ∧ (x6 < (0 : Int)))))))) : (((-(1 : Int)) ≤ x1) ∧ ((-(1 : Int)) ≤ x0)) := by omega
theorem q_2251 {x0 : Int} (h0 : (((-(2147483648 : Int)) ≤ x0) ∧ (x0 ≤ (2147483647 : Int)))) : (((-(2147483648 : Int)) ≤ ((x0 + (1 : Int)) / (2 : Int))) ∧ (((x0 + (1 : Int)) / (2 : Int)) ≤ (2147483647 : Int))) := by omega
theorem q_2253 {x0 : Int} (h0 : (((0 : Int) ≤ x0) ∧ (x0 ≤ (65536 : Int)))) : (inr (x0 + (16 : Int))) := by omega
theorem q_2257 {x0 : Int} : (((16 : Int) - (x0 + (1 : Int))) < ((16 : Int) - x0)) := by omega
theorem q_2258 {x0 : Int} (h0 : (x0 < (16 : Int))) : ((0 : Int) < ((16 : Int) - x0)) := by omega
theorem q_2263 {x0 x1 : Int} (h0 : ((1 : Int) ≤ x0)) (h1 : (x0 ≤ (8 : Int))) (h2 : (((0 : Int) ≤ x1) ∧ (x1 ≤ (65536 : Int)))) : (inr (x1 + x0)) := by omega
theorem q_2264 {x0 x1 : Int} (h0 : (x0 < x1)) (h1 : (x1 ≤ (8 : Int))) (h2 : ((0 : Int) ≤ x0)) : (inr (x0 + (1 : Int))) := by omega
theorem q_2265 {x0 : Int} (h0 : (((0 : Int) ≤ x0) ∧ (x0 ≤ (65536 : Int)))) : (inr ((65536 : Int) - x0)) := by omega
theorem q_2266 {x0 : Int} (h0 : (((0 : Int) ≤ x0) ∧ (x0 ≤ (65536 : Int)))) : (inrJ ((65536 : Int) - x0)) := by omega
theorem q_2267 {x0 x1 : Int} (h0 : ((0 : Int) ≤ (x0 * x1))) (h1 : ((x0 * x1) ≤ ((65536 : Int) * (2147483647 : Int)))) : (inrJ (x0 * x1)) := by omega
theorem q_2270 {x0 x1 x2 : Int} (h0 : (x0 ≤ x1)) (h1 : (x1 ≤ x2)) : (x0 ≤ x2) := by omega
theorem q_2271 {x0 x1 x2 : Int} : (((x0 * x1) - (x2 + (1 : Int))) < ((x0 * x1) - x2)) := by omega
theorem q_2272 {x0 x1 x2 : Int} (h0 : (x0 < (x1 * x2))) : ((0 : Int) < ((x1 * x2) - x0)) := by omega
theorem q_2299 : (((0 : Int) ≤ (0 : Int)) ∧ (((0 : Int) ≤ (0 : Int)) ∧ ((0 : Int) ≤ (65536 : Int)))) := by omega
theorem q_2302 : (inr (-(5 : Int))) := by omega
theorem q_2303 {x0 x1 x2 : Int} (h0 : ((2 : Int) ≤ x0)) (h1 : (x0 ≠ (4 : Int))) : (((x0 < (2 : Int)) ∧ ((0 : Int) = x1)) ∨ (((x0 = (4 : Int)) ∧ ((0 : Int) = x2)) ∨ (((2 : Int) ≤ x0) ∧ ((x0 ≠ (4 : Int)) ∧ ((0 : Int) = (0 : Int)))))) := by omega
theorem q_2304 {x0 x1 x2 : Int} (h0 : (x0 = (4 : Int))) : (((x0 < (2 : Int)) ∧ (x1 = x2)) ∨ (((x0 = (4 : Int)) ∧ (x1 = x1)) ∨ (((2 : Int) ≤ x0) ∧ ((x0 ≠ (4 : Int)) ∧ (x1 = (0 : Int)))))) := by omega
theorem q_2305 {x0 x1 x2 : Int} (h0 : (x0 < (2 : Int))) : (((x0 < (2 : Int)) ∧ (x1 = x1)) ∨ (((x0 = (4 : Int)) ∧ (x1 = x2)) ∨ (((2 : Int) ≤ x0) ∧ ((x0 ≠ (4 : Int)) ∧ (x1 = (0 : Int)))))) := by omega
theorem q_2306 {x0 x1 : Int} (h0 : (((0 : Int) ≤ x0) ∧ (x0 ≤ (65536 : Int)))) : ((x1 = (3 : Int)) → (((0 : Int) ≤ x0) ∧ (x0 ≤ (65536 : Int)))) := by omega
theorem q_2307 {x0 x1 : Int} (h0 : (x0 = (2 : Int))) (h1 : (((-(2147483648 : Int)) ≤ x1) ∧ (x1 ≤ (2147483647 : Int)))) : ((x0 = (3 : Int)) → (((0 : Int) ≤ x1) ∧ (x1 ≤ (65536 : Int)))) := by omega
theorem q_2308 {x0 x1 : Int} (h0 : (x0 = (1 : Int))) (h1 : (((-(2147483648 : Int)) ≤ x1) ∧ (x1 ≤ (2147483647 : Int)))) : ((x0 = (3 : Int)) → (((0 : Int) ≤ x1) ∧ (x1 ≤ (65536 : Int)))) := by omega
theorem q_2309 {x0 x1 : Int} (h0 : (x0 = (0 : Int))) (h1 : (((-(2147483648 : Int)) ≤ x1) ∧ (x1 ≤ (2147483647 : Int)))) : ((x0 = (3 : Int)) → (((0 : Int) ≤ x1) ∧ (x1 ≤ (65536 : Int)))) := by omega
theorem q_2310 {x0 x1 : Int} (h0 : (((0 : Int) ≤ x0) ∧ ((x0 ≤ (4 : Int)) ∧ (((0 : Int) ≤ x1) ∧ (x1 ≤ (65536 : Int)))))) : (((0 : Int) ≤ x1) ∧ (x1 ≤ (65536 : Int))) := by omega
theorem q_2311 : (inr (-(50 : Int))) := by omega
theorem q_2313 {x0 x1 : Int} (h0 : (((0 : Int) ≤ x0) ∧ ((x0 ≤ (3 : Int)) ∧ (((0 : Int) ≤ x1) ∧ (x1 ≤ (65540 : Int)))))) : (((0 : Int) ≤ x0) ∧ (x0 < ((4 : Nat) : Int))) := by omega
theorem q_2314 {x0 x1 : Int} (h0 : (((0 : Int) ≤ x0) ∧ ((x0 ≤ (3 : Int)) ∧ (((0 : Int) ≤ x1) ∧ (x1 ≤ (65540 : Int)))))) : (inr (x1 + (4 : Int))) := by omega
theorem q_2316 {x0 x1 x2 : Int} (h0 : ((x0 + (4 : Int)) ≤ x1)) (h1 : (((0 : Int) ≤ x2) ∧ ((x2 ≤ (3 : Int)) ∧ (((0 : Int) ≤ x0) ∧ (x0 ≤ (65540 : Int)))))) (h2 : (((0 : Int) ≤ x1) ∧ (x1 ≤ (65536 : Int)))) : (((0 : Int) ≤ (((65536 : Int) * x2) + x0)) ∧ ((((65536 : Int) * x2) + x0) < ((262144 : Nat) : Int))) := by omega
theorem q_2318 {x0 x1 x2 : Int} (h0 : ((x0 + (4 : Int)) ≤ x1)) (h1 : (((0 : Int) ≤ x2) ∧ ((x2 ≤ (3 : Int)) ∧ (((0 : Int) ≤ x0) ∧ (x0 ≤ (65540 : Int)))))) (h2 : (((0 : Int) ≤ x1) ∧ (x1 ≤ (65536 : Int)))) : (((0 : Int) ≤ ((((65536 : Int) * x2) + x0) + (1 : Int))) ∧ (((((65536 : Int) * x2) + x0) + (1 : Int)) < ((262144 : Nat) : Int))) := by omega
theorem q_2319 {x0 x1 x2 : Int} (h0 : ((x0 + (4 : Int)) ≤ x1)) (h1 : (((0 : Int) ≤ x2) ∧ ((x2 ≤ (3 : Int)) ∧ (((0 : Int) ≤ x0) ∧ (x0 ≤ (65540 : Int)))))) (h2 : (((0 : Int) ≤ x1) ∧ (x1 ≤ (65536 : Int)))) : (((0 : Int) ≤ ((((65536 : Int) * x2) + x0) + (2 : Int))) ∧ (((((65536 : Int) * x2) + x0) + (2 : Int)) < ((262144 : Nat) : Int))) := by omega
theorem q_2320 {x0 x1 x2 : Int} (h0 : ((x0 + (4 : Int)) ≤ x1)) (h1 : (((0 : Int) ≤ x2) ∧ ((x2 ≤ (3 : Int)) ∧ (((0 : Int) ≤ x0) ∧ (x0 ≤ (65540 : Int)))))) (h2 : (((0 : Int) ≤ x1) ∧ (x1 ≤ (65536 : Int)))) : (((0 : Int) ≤ ((((65536 : Int) * x2) + x0) + (3 : Int))) ∧ (((((65536 : Int) * x2) + x0) + (3 : Int)) < ((262144 : Nat) : Int))) := by omega
theorem q_2323 : (inr (34 : Int)) := by omega
theorem q_2324 : (((-(1 : Int)) ≤ (0 : Int)) ∧ (((0 : Int) ≤ (5 : Int)) ∧ ((0 : Int) ≠ (2 : Int)))) := by omega
theorem q_2325 : (((-(1 : Int)) ≤ (3 : Int)) ∧ (((3 : Int) ≤ (5 : Int)) ∧ ((3 : Int) ≠ (2 : Int)))) := by omega
theorem q_2328 {x0 x1 : Int} (h0 : (((0 : Int) ≤ x0) ∧ ((x0 ≤ x1) ∧ (x1 ≤ (65536 : Int))))) : (inr (x0 + (4 : Int))) := by omega
theorem q_2329 {x0 x1 : Int} (h0 : (((0 : Int) ≤ x0) ∧ ((x0 ≤ x1) ∧ (x1 ≤ (65536 : Int))))) : (inr (x0 + (10 : Int))) := by omega
theorem q_2331 : (((-(1 : Int)) ≤ (5 : Int)) ∧ (((5 : Int) ≤ (5 : Int)) ∧ ((5 : Int) ≠ (2 : Int)))) := by omega
theorem q_2332 : (((-(1 : Int)) ≤ (4 : Int)) ∧ (((4 : Int) ≤ (5 : Int)) ∧ ((4 : Int) ≠ (2 : Int)))) := by omega
theorem q_2333 : (((-(1 : Int)) ≤ (1 : Int)) ∧ (((1 : Int) ≤ (5 : Int)) ∧ ((1 : Int) ≠ (2 : Int)))) := by omega
theorem q_2335 {x0 x1 x2 x3 : Int} (h0 : (x0 = (0 : Int))) : (((x0 = (0 : Int)) ∧ ((0 : Int) = (0 : Int))) ∨ (((x0 ≠ (0 : Int)) ∧ (((0 : Int) ≤ x1) ∧ ((x1 ≤ (65536 : Int)) ∧ ((x2 > ((x1 - x3) - (8 : Int))) ∧ ((0 : Int) = (0 : Int)))))) ∨ ((x0 ≠ (0 : Int)) ∧ (((0 : Int) ≤ x1) ∧ ((x1 ≤ (65536 : Int)) ∧ ((x2 ≤ ((x1 - x3) - (8 : Int))) ∧ ((0 : Int) = (1 : Int)))))))) := by omega
theorem q_2336 {x0 x1 x2 : Int} (h0 : (x0 = x1)) (h1 : (((0 : Int) ≤ x2) ∧ ((x2 ≤ x0) ∧ (x0 ≤ (65536 : Int))))) (h2 : (((0 : Int) ≤ x1) ∧ (x1 ≤ (65536 : Int)))) : (inr ((x1 - x2) - (8 : Int))) := by omega
theorem q_2337 {x0 x1 x2 : Int} (h0 : (x0 = x1)) (h1 : (((0 : Int) ≤ x2) ∧ ((x2 ≤ x0) ∧ (x0 ≤ (65536 : Int))))) (h2 : (((0 : Int) ≤ x1) ∧ (x1 ≤ (65536 : Int)))) : (inrJ ((x1 - x2) - (8 : Int))) := by omega
theorem q_2339 {x0 x1 : Int} (h0 : (((0 : Int) ≤ x0) ∧ ((x0 ≤ x1) ∧ (x1 ≤ (65536 : Int))))) : (inr (x0 + (8 : Int))) := by omega
theorem q_2343 : (((-(1 : Int)) ≤ (-(1 : Int))) ∧ (((-(1 : Int)) ≤ (5 : Int)) ∧ ((-(1 : Int)) ≠ (2 : Int)))) := by omega
theorem q_2344 : (inr (-(51 : Int))) := by omega
theorem q_2345 : (((0 : Int) ≤ (2 : Int)) ∧ ((2 : Int) < ((10 : Nat) : Int))) := by omega
theorem q_2348 : ((inr (255 : Int)) ∧ ((0 : Int) < (255 : Int))) := by omega
theorem q_2352 : ((inr (6 : Int)) ∧ ((0 : Int) < (6 : Int))) := by omega
theorem q_2354 : (((0 : Int) ≤ (6 : Int)) ∧ ((6 : Int) < ((10 : Nat) : Int))) := by omega
theorem q_2361 : (((0 : Int) ≤ (7 : Int)) ∧ ((7 : Int) < ((10 : Nat) : Int))) := by omega
theorem q_2365 : (((0 : Int) ≤ (8 : Int)) ∧ ((8 : Int) < ((10 : Nat) : Int))) := by omega
theorem q_2370 {x0 : Int} : (((3 : Int) < (0 : Int)) → (((0 : Int) ≤ x0) ∧ (x0 ≤ (65536 : Int)))) := by omega
theorem q_2371 : (((0 : Int) ≤ (0 : Int)) ∨ ((0 : Int) ≤ (5 : Int))) := by omega
theorem q_2372 {x0 x1 : Int} (h0 : (((0 : Int) ≤ x0) ∧ ((x0 ≤ (3 : Int)) ∧ (((0 : Int) ≤ x1) ∧ (x1 ≤ (4 : Int)))))) : (((0 : Int) ≤ x0) ∧ (x0 < ((4 : Nat) : Int))) := by omega
theorem q_2373 {x0 x1 x2 : Int} (h0 : (((0 : Int) ≤ x0) ∧ ((x0 ≤ (3 : Int)) ∧ (((0 : Int) ≤ x1) ∧ (x1 ≤ (4 : Int)))))) (h1 : (((0 : Int) ≤ x2) ∧ (x2 ≤ (65536 : Int)))) : (((0 : Int) ≤ x1) ∧ ((x1 ≤ (4 : Int)) ∧ (((0 : Int) ≤ x2) ∧ (x2 ≤ (65536 : Int))))) := by omega
theorem q_2374 : (((0 : Int) ≤ (0 : Int)) ∧ ((0 : Int) < ((5 : Nat) : Int))) := by omega
theorem q_2375 : (((0 : Int) ≤ (1 : Int)) ∧ ((1 : Int) < ((5 : Nat) : Int))) := by omega
theorem q_2376 : (((0 : Int) ≤ (2 : Int)) ∧ ((2 : Int) < ((5 : Nat) : Int))) := by omega
theorem q_2377 : (((0 : Int) ≤ (3 : Int)) ∧ ((3 : Int) < ((5 : Nat) : Int))) := by omega
theorem q_2379 : (((0 : Int) ≤ (4 : Int)) ∧ ((4 : Int) < ((5 : Nat) : Int))) := by omega
theorem q_2380 {x0 x1 x2 : Int} (h0 : (x0 ≤ x1)) : ((x1 ≥ x0) ∨ ((x1 < x0) ∧ (x2 = (0 : Int)))) := by omega
theorem q_2381 {x0 x1 x2 : Int} (h0 : (x0 < x1)) (h1 : (x2 = (0 : Int))) : ((x0 ≥ x1) ∨ ((x0 < x1) ∧ (x2 = (0 : Int)))) := by omega
theorem q_2383 {x0 x1 : Int} (h0 : (x0 ≠ x1)) : (((x0 ≠ x1) ∧ ((0 : Int) = (0 : Int))) ∨ ((x0 = x1) ∧ ((0 : Int) = (1 : Int)))) := by omega
theorem q_2384 {x0 x1 : Int} (h0 : (x0 = x1)) : (((x0 ≠ x1) ∧ ((1 : Int) = (0 : Int))) ∨ ((x0 = x1) ∧ ((1 : Int) = (1 : Int)))) := by omega
theorem q_2386 {x0 : Int} (h0 : (x0 < (5 : Int))) : (((x0 + (1 : Int)) ≤ (0 : Int)) ∨ ((x0 + (1 : Int)) ≤ (5 : Int))) := by omega
theorem q_2387 {x0 : Int} (h0 : (x0 < (5 : Int))) (h1 : ((0 : Int) ≤ x0)) : (inr (x0 + (1 : Int))) := by omega
theorem q_2388 {x0 x1 x2 : Int} (h0 : (((0 : Int) ≤ x0) ∧ ((x0 + x1) ≤ (2048 : Int)))) (h1 : (((0 : Int) ≤ x2) ∧ (x2 ≤ x1))) : (inr x1) := by omega
theorem q_2389 {x0 x1 x2 : Int} (h0 : (x0 < x1)) (h1 : (((0 : Int) ≤ x2) ∧ ((x2 + x1) ≤ (2048 : Int)))) (h2 : ((0 : Int) ≤ x0)) : (((0 : Int) ≤ (x2 + x0)) ∧ ((x2 + x0) < ((2048 : Nat) : Int))) := by omega
theorem q_2390 {x0 x1 : Int} (h0 : ((x0 ≤ x1) ∧ (x1 < ((2 : Int) * x0)))) : ((1 : Int) ≤ x1) := by omega
theorem q_2391 {x0 x1 : Int} (h0 : ((x0 ≤ x1) ∧ (x1 < ((2 : Int) * x0)))) (h1 : (((-(2147483648 : Int)) ≤ x1) ∧ (x1 ≤ (2147483647 : Int)))) : (inr x1) := by omega
theorem q_2392 {x0 x1 x2 : Int} (h0 : (x0 < x1)) (h1 : (((0 : Int) ≤ x2) ∧ ((x2 + x1) ≤ (2048 : Int)))) (h2 : ((0 : Int) ≤ x0)) : (inr (x0 + (1 : Int))) := by omega
theorem q_2393 {x0 x1 x2 : Int} (h0 : (x0 < x1)) (h1 : (((0 : Int) ≤ x2) ∧ (((1 : Int) ≤ x1) ∧ ((x1 ≤ (64 : Int)) ∧ ((x2 + x1) ≤ (64 : Int)))))) (h2 : ((0 : Int) ≤ x0)) : (((0 : Int) ≤ (x2 + x0)) ∧ ((x2 + x0) < ((64 : Nat) : Int))) := by omega
theorem q_2394 {x0 x1 x2 : Int} (h0 : (x0 < x1)) (h1 : (((0 : Int) ≤ x2) ∧ (((1 : Int) ≤ x1) ∧ ((x1 ≤ (64 : Int)) ∧ ((x2 + x1) ≤ (64 : Int)))))) (h2 : ((0 : Int) ≤ x0)) : (((0 : Int) ≤ x0) ∧ (x0 < ((64 : Nat) : Int))) := by omega
theorem q_2395 {x0 x1 x2 : Int} (h0 : (x0 < x1)) (h1 : (((0 : Int) ≤ x2) ∧ (((1 : Int) ≤ x1) ∧ ((x1 ≤ (64 : Int)) ∧ ((x2 + x1) ≤ (64 : Int)))))) (h2 : ((0 : Int) ≤ x0)) : (inr (x0 + (1 : Int))) := by omega
theorem q_2396 {x0 x1 x2 : Int} (h0 : (x0 < x1)) (h1 : (((0 : Int) ≤ x2) ∧ (((1 : Int) ≤ x1) ∧ ((x1 ≤ (64 : Int)) ∧ ((x2 + x1) ≤ (64 : Int)))))) (h2 : ((0 : Int) ≤ x0)) : (((-(1 : Int)) ≤ x0) ∧ (x0 ≤ (63 : Int))) := by omega
theorem q_2397 {x0 x1 x2 : Int} (h0 : (((0 : Int) ≤ x0) ∧ ((x0 + x1) ≤ (2048 : Int)))) (h1 : (((0 : Int) ≤ x2) ∧ (x2 ≤ x1))) : ((inr x1) ∧ ((0 : Int) ≤ x1)) := by omega
theorem q_2398 {x0 : Int} (h0 : (((-(1 : Int)) ≤ x0) ∧ (x0 ≤ (512 : Int)))) : ((-(1 : Int)) ≤ x0) := by omega
theorem q_2399 {x0 x1 x2 : Int} (h0 : (x0 < x1)) (h1 : (((0 : Int) ≤ x2) ∧ (((1 : Int) ≤ x1) ∧ ((x1 ≤ (64 : Int)) ∧ ((x2 + x1) ≤ (192 : Int)))))) (h2 : ((0 : Int) ≤ x0)) : (((0 : Int) ≤ x0) ∧ (x0 < ((64 : Nat) : Int))) := by omega
theorem q_2400 {x0 x1 x2 : Int} (h0 : (x0 < x1)) (h1 : (((0 : Int) ≤ x2) ∧ (((1 : Int) ≤ x1) ∧ ((x1 ≤ (64 : Int)) ∧ ((x2 + x1) ≤ (192 : Int)))))) (h2 : ((0 : Int) ≤ x0)) : (inr (x0 + (1 : Int))) := by omega
theorem q_2401 {x0 x1 : Int} (h0 : (((0 : Int) ≤ x0) ∧ (x0 < x1))) : (((0 : Int) ≤ (0 : Int)) ∧ ((0 : Int) ≤ x1)) := by omega
theorem q_2402 {x0 x1 x2 : Int} (h0 : (x0 < x1)) (h1 : (((0 : Int) ≤ x2) ∧ ((x2 + x1) ≤ (2048 : Int)))) (h2 : (((0 : Int) ≤ x0) ∧ (x0 ≤ x1))) : (((0 : Int) ≤ (x2 + x0)) ∧ ((x2 + x0) < ((2048 : Nat) : Int))) := by omega
theorem q_2403 {x0 x1 x2 : Int} (h0 : (x0 < x1)) (h1 : (((0 : Int) ≤ x2) ∧ ((x2 + x1) ≤ (2048 : Int)))) (h2 : (((0 : Int) ≤ x0) ∧ (x0 ≤ x1))) : (inr (x0 + (1 : Int))) := by omega
theorem q_2404 {x0 : Int} (h0 : (((0 : Int) ≤ x0) ∧ (x0 ≤ (511 : Int)))) : (inr x0) := by omega
theorem q_2405 {x0 x1 : Int} (h0 : (x0 < x1)) (h1 : (((0 : Int) ≤ x0) ∧ (x0 ≤ x1))) : (((0 : Int) ≤ x0) ∧ (x0 < x1)) := by omega
theorem q_2406 {x0 : Int} (h0 : (((0 : Int) ≤ x0) ∧ ((x0 + (64 : Int)) ≤ (64 : Int)))) : (((0 : Int) ≤ x0) ∧ (((1 : Int) ≤ (64 : Int)) ∧ (((64 : Int) ≤ (64 : Int)) ∧ ((x0 + (64 : Int)) ≤ (64 : Int))))) := by omega
theorem q_2407 {x0 x1 : Int} (h0 : (((0 : Int) ≤ x0) ∧ (x0 ≤ (2 : Int)))) (h1 : ((1 : Int) ≤ x1)) (h2 : (((0 : Int) ≤ x1) ∧ (x1 ≤ (8001 : Int)))) : (((0 : Int) ≤ ((((8001 : Int) * x0) + x1) - (1 : Int))) ∧ (((((8001 : Int) * x0) + x1) - (1 : Int)) < ((24003 : Nat) : Int))) := by omega
theorem q_2408 {x0 : Int} (h0 : (((0 : Int) ≤ x0) ∧ (x0 ≤ (63 : Int)))) : (((0 : Int) ≤ x0) ∧ (x0 < (64 : Int))) := by omega
theorem q_2409 {x0 : Int} (h0 : (((0 : Int) ≤ x0) ∧ (x0 ≤ (63 : Int)))) : (inr x0) := by omega
theorem q_2410 {x0 x1 : Int} : ((x0 ≤ x0) ∧ (x0 ≤ (x0 * ((x1 - (1 : Int)) - (x1 - (2 : Int)))))) := by omega
theorem q_2411 {x0 : Int} (h0 : ((1 : Int) ≤ x0)) : (((-(1 : Int)) ≤ (x0 - (2 : Int))) ∧ ((x0 - (2 : Int)) ≤ (x0 - (2 : Int)))) := by omega
theorem q_2412 {x0 : Int} (h0 : (((0 : Int) ≤ x0) ∧ (x0 ≤ (8001 : Int)))) : (inr (x0 - (2 : Int))) := by omega
theorem q_2413 {x0 x1 : Int} (h0 : (x0 < (0 : Int))) (h1 : (((-(1 : Int)) ≤ x0) ∧ (x0 ≤ (x1 - (2 : Int))))) : (((x1 - (2 : Int)) - x0) = (x1 - (1 : Int))) := by omega
theorem q_2414 {x0 x1 x2 x3 : Int} (h0 : ((x0 * ((x1 - (1 : Int)) - x2)) = (x0 * x1))) (h1 : ((x0 ≤ x3) ∧ (x3 ≤ (x0 * ((x1 - (1 : Int)) - x2))))) : ((x3 = (-(1 : Int))) ∨ ((x0 ≤ x3) ∧ (x3 ≤ (x0 * x1)))) := by omega
theorem q_2415 {x0 x1 x2 : Int} (h0 : ((0 : Int) ≤ x0)) (h1 : (((0 : Int) ≤ x1) ∧ (x1 ≤ (2 : Int)))) (h2 : (((-(1 : Int)) ≤ x0) ∧ (x0 ≤ (x2 - (2 : Int))))) (h3 : (((0 : Int) ≤ x2) ∧ (x2 ≤ (8001 : Int)))) : (((0 : Int) ≤ (((8001 : Int) * x1) + x0)) ∧ ((((8001 : Int) * x1) + x0) < ((24003 : Nat) : Int))) := by omega
theorem q_2416 {x0 x1 : Int} (h0 : ((0 : Int) ≤ x0)) (h1 : (((-(1 : Int)) ≤ x0) ∧ (x0 ≤ (x1 - (2 : Int))))) : (((-(1 : Int)) ≤ (x0 + (-(1 : Int)))) ∧ ((x0 + (-(1 : Int))) ≤ (x1 - (2 : Int)))) := by omega
theorem q_2417 {x0 x1 x2 x3 x4 : Int} (h0 : ((x0 * ((x1 - (1 : Int)) - x2)) ≤ ((9 : Int) * (8001 : Int)))) (h1 : (inr x3)) (h2 : ((x0 ≤ x3) ∧ (x3 ≤ (x0 * ((x1 - (1 : Int)) - x2))))) (h3 : (((0 : Int) ≤ x4) ∧ (x4 ≤ (9 : Int)))) : (inr (x3 + x4)) := by omega
theorem q_2418 {x0 x1 : Int} (h0 : (((0 : Int) ≤ x0) ∧ ((x0 + (64 : Int)) ≤ (64 : Int)))) (h1 : (((0 : Int) ≤ x1) ∧ (x1 ≤ (63 : Int)))) : (((0 : Int) ≤ (x0 + x1)) ∧ ((x0 + x1) < ((64 : Nat) : Int))) := by omega
theorem q_2419 {x0 x1 : Int} : (((-(1 : Int)) = (-(1 : Int))) ∨ ((x0 ≤ (-(1 : Int))) ∧ ((-(1 : Int)) ≤ (x0 * x1)))) := by omega
theorem q_2420 {x0 : Int} (h0 : (((0 : Int) ≤ x0) ∧ ((x0 + (64 : Int)) ≤ (192 : Int)))) : (((0 : Int) ≤ x0) ∧ (((1 : Int) ≤ (64 : Int)) ∧ (((64 : Int) ≤ (64 : Int)) ∧ ((x0 + (64 : Int)) ≤ (192 : Int))))) := by omega
theorem q_2421 {x0 x1 : Int} (h0 : (((0 : Int) ≤ x0) ∧ ((x0 + (64 : Int)) ≤ (192 : Int)))) (h1 : (((0 : Int) ≤ x1) ∧ (x1 ≤ (63 : Int)))) : (((0 : Int) ≤ (x0 + x1)) ∧ ((x0 + x1) < ((192 : Nat) : Int))) := by omega
theorem q_2422 {x0 : Int} (h0 : ((64 : Int) ≤ x0)) (h1 : ((x0 ≤ (0 : Int)) ∨ (x0 ≤ (64 : Int)))) : (x0 = (64 : Int)) := by omega
theorem q_2423 {x0 x1 : Int} (h0 : (x0 = (64 : Int))) (h1 : (((-((512 : Int) * x0)) ≤ x1) ∧ (x1 ≤ (512 : Int)))) : (((-(32768 : Int)) ≤ x1) ∧ (x1 ≤ (512 : Int))) := by omega
theorem q_2424 : (((0 : Int) ≤ (0 : Int)) ∧ ((0 : Int) < (64 : Int))) := by omega
theorem q_2425 : (((1 : Int) ≤ (1 : Int)) ∨ ((1 : Int) ≤ (64 : Int))) := by omega
theorem q_2426 {x0 : Int} (h0 : (((0 : Int) ≤ x0) ∧ (x0 < (64 : Int)))) : (((0 : Int) ≤ x0) ∧ (x0 < ((64 : Nat) : Int))) := by omega
theorem q_2427 {x0 x1 : Int} (h0 : (x0 = x1)) (h1 : ((2 : Int) ≤ x0)) (h2 : (((-(2147483648 : Int)) ≤ x1) ∧ (x1 ≤ (2147483647 : Int)))) : (((-(2147483648 : Int)) ≤ (x1 - (1 : Int))) ∧ ((x1 - (1 : Int)) ≤ (2147483647 : Int))) := by omega
theorem q_2428 {x0 : Int} (h0 : (x0 < (0 : Int))) (h1 : (((-(32768 : Int)) ≤ x0) ∧ (x0 ≤ (0 : Int)))) : (((-(32768 : Int)) ≤ (x0 + (1 : Int))) ∧ ((x0 + (1 : Int)) ≤ (0 : Int))) := by omega
theorem q_2429 {x0 : Int} (h0 : (x0 < (0 : Int))) (h1 : (((-(32768 : Int)) ≤ x0) ∧ (x0 ≤ (0 : Int)))) : (inr (x0 + (1 : Int))) := by omega
theorem q_2430 {x0 : Int} : (((0 : Int) - (x0 + (1 : Int))) < ((0 : Int) - x0)) := by omega
theorem q_2431 {x0 : Int} (h0 : (x0 < (0 : Int))) : ((0 : Int) < ((0 : Int) - x0)) := by omega
theorem q_2432 {x0 : Int} (h0 : (x0 < (64 : Int))) (h1 : ((1 : Int) ≤ x0)) : (((0 : Int) ≤ x0) ∧ (x0 < ((64 : Nat) : Int))) := by omega
theorem q_2433 {x0 : Int} (h0 : (x0 < (64 : Int))) : (((x0 + (1 : Int)) ≤ (1 : Int)) ∨ ((x0 + (1 : Int)) ≤ (64 : Int))) := by omega
theorem q_2434 {x0 : Int} (h0 : (x0 < (64 : Int))) (h1 : ((1 : Int) ≤ x0)) : (inr (x0 + (1 : Int))) := by omega
theorem q_2435 {x0 : Int} (h0 : (x0 < (64 : Int))) (h1 : ((1 : Int) ≤ x0)) : (((0 : Int) ≤ x0) ∧ (x0 < (64 : Int))) := by omega
theorem q_2436 {x0 x1 : Int} : (((-(1 : Int)) = (-(1 : Int))) ∨ (((0 : Int) ≤ (-(1 : Int))) ∧ (((-(1 : Int)) < (0 : Int)) ∧ (((0 : Int) < x0) ∧ (x1 = (0 : Int)))))) := by omega
theorem q_2437 {x0 x1 x2 x3 : Int} (h0 : ((0 : Int) ≤ x0)) (h1 : ((x1 ≤ (0 : Int)) ∨ (x1 ≤ (64 : Int)))) (h2 : ((x0 = (-(1 : Int))) ∨ (((0 : Int) ≤ x0) ∧ ((x0 < x1) ∧ (((0 : Int) < x2) ∧ (x3 = (0 : Int))))))) : (((0 : Int) ≤ x0) ∧ (x0 < ((64 : Nat) : Int))) := by omega
theorem q_2438 {x0 : Int} (h0 : (x0 < (64 : Int))) (h1 : ((0 : Int) ≤ x0)) : (((0 : Int) ≤ x0) ∧ (x0 < ((64 : Nat) : Int))) := by omega
theorem q_2439 {x0 x1 x2 x3 x4 : Int} (h0 : ((0 : Int) < x0)) (h1 : (x1 = (0 : Int))) (h2 : (x2 = x0)) (h3 : (x3 = x1)) (h4 : ((0 : Int) ≤ x4)) : ((x4 = (-(1 : Int))) ∨ (((0 : Int) ≤ x4) ∧ ((x4 < (x4 + (1 : Int))) ∧ (((0 : Int) < x2) ∧ (x3 = (0 : Int)))))) := by omega
theorem q_2440 {x0 x1 x2 x3 : Int} (h0 : (x0 < (64 : Int))) (h1 : ((0 : Int) ≤ x1)) (h2 : ((x1 = (-(1 : Int))) ∨ (((0 : Int) ≤ x1) ∧ ((x1 < x0) ∧ (((0 : Int) < x2) ∧ (x3 = (0 : Int))))))) : (((0 : Int) ≤ x1) ∧ (x1 < ((64 : Nat) : Int))) := by omega
theorem q_2441 {x0 : Int} (h0 : (inr x0)) (h1 : (((1 : Int) ≤ x0) ∧ (x0 ≤ (8001 : Int)))) : ((inr x0) ∧ ((0 : Int) < x0)) := by omega
theorem q_2442 {x0 x1 x2 : Int} (h0 : (((1 : Int) ≤ x0) ∧ (x0 ≤ (8001 : Int)))) (h1 : (((0 : Int) ≤ ((x1 * x2) % x0)) ∧ (((x1 * x2) % x0) < x0))) : (((-(2147483648 : Int)) ≤ ((x1 * x2) % x0)) ∧ (((x1 * x2) % x0) ≤ (2147483647 : Int))) := by omega
theorem q_2443 {x0 x1 : Int} (h0 : (((-((512 : Int) * x0)) ≤ x1) ∧ (x1 ≤ (512 : Int)))) : ((0 : Int) ≤ (x0 + (1 : Int))) := by omega
theorem q_2444 {x0 x1 : Int} (h0 : (x0 < (64 : Int))) (h1 : (((-((512 : Int) * x0)) ≤ x1) ∧ (x1 ≤ (512 : Int)))) : (inr (x0 + (1 : Int))) := by omega
theorem q_2445 {x0 x1 x2 : Int} (h0 : ((x0 * x1) ≠ (0 : Int))) (h1 : (x2 ≤ (x0 * x1))) : ((((x0 * x1) ≠ (0 : Int)) ∧ (((x0 * x1) ≥ x2) ∧ (((x0 * x1) / x2) = ((x0 * x1) / x2)))) ∨ ((((x0 * x1) ≠ (0 : Int)) ∧ (((x0 * x1) < x2) ∧ (((x0 * x1) / x2) = (-(1 : Int))))) ∨ (((x0 * x1) = (0 : Int)) ∧ (((x0 * x1) / x2) = (0 : Int))))) := by omega
theorem q_2446 {x0 x1 x2 : Int} (h0 : ((x0 * x1) ≠ (0 : Int))) (h1 : ((x0 * x1) < x2)) : ((((x0 * x1) ≠ (0 : Int)) ∧ (((x0 * x1) ≥ x2) ∧ ((-(1 : Int)) = ((x0 * x1) / x2)))) ∨ ((((x0 * x1) ≠ (0 : Int)) ∧ (((x0 * x1) < x2) ∧ ((-(1 : Int)) = (-(1 : Int))))) ∨ (((x0 * x1) = (0 : Int)) ∧ ((-(1 : Int)) = (0 : Int))))) := by omega
theorem q_2447 {x0 x1 x2 : Int} (h0 : ((x0 * x1) = (0 : Int))) : ((((x0 * x1) ≠ (0 : Int)) ∧ (((x0 * x1) ≥ x2) ∧ ((0 : Int) = ((x0 * x1) / x2)))) ∨ ((((x0 * x1) ≠ (0 : Int)) ∧ (((x0 * x1) < x2) ∧ ((0 : Int) = (-(1 : Int))))) ∨ (((x0 * x1) = (0 : Int)) ∧ ((0 : Int) = (0 : Int))))) := by omega
theorem q_2448 {x0 : Int} (h0 : (((0 : Int) ≤ x0) ∧ (x0 ≤ (1000000 : Int)))) (h1 : (((0 : Int) ≤ x0) ∧ (x0 ≤ (100000000 : Int)))) : (((0 : Int) ≤ x0) ∧ (x0 ≤ (90000000 : Int))) := by omega
theorem q_2449 : (((0 : Int) ≤ (4 : Int)) ∧ ((4 : Int) ≤ (31 : Int))) := by omega
theorem q_2450 {x0 : Int} (h0 : (((5 : Int) ≤ x0) ∧ (x0 ≤ (9 : Int)))) : (inr (x0 - (5 : Int))) := by omega
theorem q_2451 {x0 x1 : Int} (h0 : (x0 = (x1 + (4 : Int)))) : ((x1 ≤ x0) ∧ (x0 ≤ ((x1 + (4 : Int)) + ((12 : Int) * (0 : Int))))) := by omega
theorem q_2452 : (((0 : Int) ≤ (0 : Int)) ∧ ((0 : Int) ≤ (64 : Int))) := by omega
theorem q_2453 {x0 x1 x2 : Int} (h0 : (((0 : Int) ≤ x0) ∧ (x0 ≤ (1000000 : Int)))) (h1 : (((0 : Int) ≤ x1) ∧ (x1 ≤ (64 : Int)))) (h2 : ((x0 ≤ x2) ∧ (x2 ≤ ((x0 + (4 : Int)) + ((12 : Int) * x1))))) (h3 : (((0 : Int) ≤ x2) ∧ (x2 ≤ (100000000 : Int)))) : (((0 : Int) ≤ x2) ∧ (x2 ≤ (99000000 : Int))) := by omega
theorem q_2454 {x0 x1 x2 x3 x4 : Int} (h0 : (x0 ≤ (x1 + (1 : Int)))) (h1 : ((x2 ≤ x3) ∧ (x3 ≤ ((x2 + (4 : Int)) + ((12 : Int) * x0))))) (h2 : ((x3 ≤ x4) ∧ (x4 ≤ (x3 + (7 : Int))))) : ((x2 ≤ x4) ∧ (x4 ≤ ((x2 + (11 : Int)) + ((12 : Int) * (x1 + (1 : Int)))))) := by omega
theorem q_2455 {x0 x1 : Int} (h0 : (((0 : Int) ≤ x0) ∧ ((x0 + (64 : Int)) ≤ (64 : Int)))) (h1 : (x1 < (64 : Int))) (h2 : (((0 : Int) ≤ x1) ∧ (x1 ≤ (64 : Int)))) : (((0 : Int) ≤ (x0 + x1)) ∧ ((x0 + x1) < ((64 : Nat) : Int))) := by omega
theorem q_2456 {x0 : Int} (h0 : ((0 : Int) < x0)) : ((1 : Int) ≤ (x0 + (1 : Int))) := by omega
theorem q_2457 {x0 : Int} (h0 : (x0 < (10 : Int))) (h1 : (((0 : Int) ≤ x0) ∧ (x0 ≤ (30 : Int)))) : (((0 : Int) ≤ x0) ∧ (x0 ≤ (31 : Int))) := by omega
theorem q_2458 {x0 x1 : Int} (h0 : (((0 : Int) ≤ x0) ∧ (x0 ≤ (512 : Int)))) (h1 : ((x1 ≤ (x0 + (1 : Int))) ∧ ((x0 + (1 : Int)) < ((2 : Int) * x1)))) : (inr ((((2 : Int) * x1) - (2 : Int)) - x0)) := by omega
theorem q_2459 {x0 x1 x2 : Int} (h0 : ((x0 + (1 : Int)) < ((((2 : Int) * x1) - (2 : Int)) - x2))) (h1 : (((0 : Int) ≤ x2) ∧ (x2 ≤ (512 : Int)))) (h2 : ((x1 ≤ (x2 + (1 : Int))) ∧ ((x2 + (1 : Int)) < ((2 : Int) * x1)))) (h3 : (((-(2147483648 : Int)) ≤ x0) ∧ (x0 ≤ (2147483647 : Int)))) : (inr (x0 + (1 : Int))) := by omega
theorem q_2460 {x0 x1 x2 : Int} (h0 : (((0 : Int) ≤ x0) ∧ (x0 ≤ (1000000 : Int)))) (h1 : (x1 < (64 : Int))) (h2 : ((x0 ≤ x2) ∧ (x2 ≤ ((x0 + (4 : Int)) + ((12 : Int) * x1))))) (h3 : (((0 : Int) ≤ x2) ∧ (x2 ≤ (100000000 : Int)))) : (((0 : Int) ≤ x2) ∧ (x2 ≤ (90000000 : Int))) := by omega
theorem q_2461 {x0 : Int} (h0 : (x0 < (10 : Int))) (h1 : (((0 : Int) ≤ x0) ∧ (x0 ≤ (30 : Int)))) : (((0 : Int) ≤ (x0 + (1 : Int))) ∧ ((x0 + (1 : Int)) ≤ (31 : Int))) := by omega
theorem q_2462 {x0 : Int} (h0 : (x0 < (10 : Int))) (h1 : (((0 : Int) ≤ x0) ∧ (x0 ≤ (30 : Int)))) : (inr (x0 + (1 : Int))) := by omega
theorem q_2463 {x0 x1 x2 : Int} (h0 : ((x0 + (1 : Int)) < ((((2 : Int) * x1) - (2 : Int)) - x2))) (h1 : (((((2 : Int) * x1) - (2 : Int)) - x2) ≤ (x0 + (1 : Int)))) (h2 : (((-(2147483648 : Int)) ≤ x0) ∧ (x0 ≤ (2147483647 : Int)))) : (inr (x0 + (1 : Int))) := by omega
theorem q_2464 {x0 x1 x2 : Int} (h0 : ((x0 + (1 : Int)) < ((((2 : Int) * x1) - (2 : Int)) - x2))) (h1 : (((((2 : Int) * x1) - (2 : Int)) - x2) ≤ (x0 + (1 : Int)))) (h2 : (((-(2147483648 : Int)) ≤ x0) ∧ (x0 ≤ (2147483647 : Int)))) : ((-(1 : Int)) ≤ ((x0 + (1 : Int)) - (1 : Int))) := by omega
theorem q_2465 {x0 : Int} (h0 : (((-(2147483648 : Int)) ≤ x0) ∧ (x0 ≤ (2147483647 : Int)))) : (inr ((x0 + (1 : Int)) - (1 : Int))) := by omega
theorem q_2466 {x0 x1 : Int} : ((x0 ≤ x0) ∧ (x0 ≤ (x0 + (x1 - x1)))) := by omega
theorem q_2467 : (((0 : Int) ≤ (2 : Int)) ∧ ((2 : Int) ≤ (31 : Int))) := by omega
theorem q_2468 {x0 x1 x2 x3 x4 x5 x6 x7 x8 : Int} (h0 : (((0 : Int) ≤ x0) ∧ (x0 ≤ (1000000 : Int)))) (h1 : (x1 < (10 : Int))) (h2 : (((0 : Int) ≤ x2) ∧ (x2 ≤ x3))) (h3 : ((x4 ≤ x5) ∧ (x5 ≤ (x4 + (x3 - x2))))) (h4 : ((x0 ≤ x6) ∧ (x6 ≤ ((x0 + (4 : Int)) + ((12 : Int) * x7))))) (h5 : (((0 : Int) ≤ x1) ∧ (x1 ≤ (30 : Int)))) (h6 : (x4 = (x6 + (x1 + (1 : Int))))) (h7 : (x8 = (x5 + (2 : Int)))) (h8 : (((0 : Int) ≤ x8) ∧ (x8 ≤ (100000000 : Int)))) : ((x0 ≤ x8) ∧ (x8 ≤ ((x0 + (4 : Int)) + ((12 : Int) * ((x7 + (1 : Int)) + x3))))) := by omega
theorem q_2469 {x0 x1 x2 x3 : Int} (h0 : ((0 : Int) < x0)) (h1 : ((x1 + (1 : Int)) < ((((2 : Int) * x2) - (2 : Int)) - x0))) (h2 : (((((2 : Int) * x2) - (2 : Int)) - x0) ≤ (x1 + (1 : Int)))) (h3 : (((0 : Int) ≤ x0) ∧ (x0 ≤ (512 : Int)))) (h4 : (inr x3)) : (((0 : Int) ≤ (x0 - x3)) ∧ ((x0 - x3) ≤ (512 : Int))) := by omega
theorem q_2470 {x0 x1 x2 x3 x4 x5 : Int} (h0 : ((x0 + (1 : Int)) < ((((2 : Int) * x1) - (2 : Int)) - x2))) (h1 : (((((2 : Int) * x1) - (2 : Int)) - x2) ≤ (x0 + (1 : Int)))) : ((x2 - x3) = (x4 - x5)) := by omega
theorem q_2471 {x0 x1 x2 x3 : Int} (h0 : ((0 : Int) < x0)) (h1 : ((x1 + (1 : Int)) < ((((2 : Int) * x2) - (2 : Int)) - x0))) (h2 : (((((2 : Int) * x2) - (2 : Int)) - x0) ≤ (x1 + (1 : Int)))) (h3 : (((0 : Int) ≤ x0) ∧ (x0 ≤ (512 : Int)))) (h4 : (inr x3)) : (inr (x0 - x3)) := by omega
theorem q_2472 {x0 x1 x2 : Int} (h0 : (((0 : Int) ≤ x0) ∧ (x0 ≤ x1))) : (((64 : Int) - ((x2 + (1 : Int)) + x1)) < ((64 : Int) - x2)) := by omega
theorem q_2473 {x0 x1 x2 x3 x4 : Int} (h0 : ((x0 ≤ x1) ∧ (x1 ≤ (x0 + (x2 - x3))))) (h1 : (x4 = (x1 + (2 : Int)))) : ((x0 ≤ x4) ∧ (x4 ≤ (x0 + (x2 - (x3 + (-(3 : Int))))))) := by omega
theorem q_2474 {x0 x1 : Int} (h0 : ((2 : Int) < x0)) (h1 : (((0 : Int) ≤ x0) ∧ (x0 ≤ x1))) : (((0 : Int) ≤ (x0 + (-(3 : Int)))) ∧ ((x0 + (-(3 : Int))) ≤ x1)) := by omega
theorem q_2475 {x0 : Int} (h0 : ((2 : Int) < x0)) (h1 : (inr x0)) : (inr (x0 + (-(3 : Int)))) := by omega
theorem q_2476 {x0 : Int} : ((x0 + (-(3 : Int))) < x0) := by omega
theorem q_2477 {x0 : Int} (h0 : ((2 : Int) < x0)) : ((0 : Int) < x0) := by omega
theorem q_2478 {x0 x1 x2 x3 x4 : Int} (h0 : (((0 : Int) ≤ x0) ∧ (x0 ≤ (1000000 : Int)))) (h1 : (x1 < (10 : Int))) (h2 : ((x0 ≤ x2) ∧ (x2 ≤ ((x0 + (4 : Int)) + ((12 : Int) * x3))))) (h3 : (((0 : Int) ≤ x1) ∧ (x1 ≤ (30 : Int)))) (h4 : (x4 = (x2 + (x1 + (1 : Int))))) (h5 : (((0 : Int) ≤ x4) ∧ (x4 ≤ (100000000 : Int)))) : ((x0 ≤ x4) ∧ (x4 ≤ ((x0 + (4 : Int)) + ((12 : Int) * (x3 + (1 : Int)))))) := by omega
theorem q_2479 {x0 x1 x2 : Int} (h0 : (x0 < (64 : Int))) (h1 : ((x1 ≤ x2) ∧ (x2 ≤ ((x1 + (4 : Int)) + ((12 : Int) * x0))))) : (((0 : Int) ≤ (x0 + (1 : Int))) ∧ ((x0 + (1 : Int)) ≤ (64 : Int))) := by omega
theorem q_2480 {x0 x1 x2 : Int} (h0 : (x0 < (64 : Int))) (h1 : ((x1 ≤ x2) ∧ (x2 ≤ ((x1 + (4 : Int)) + ((12 : Int) * x0))))) : (inr (x0 + (1 : Int))) := by omega
theorem q_2481 {x0 x1 x2 x3 x4 x5 x6 x7 x8 : Int} (h0 : (((0 : Int) ≤ x0) ∧ (x0 ≤ (1000000 : Int)))) (h1 : (x1 < (10 : Int))) (h2 : (((0 : Int) ≤ x2) ∧ (x2 ≤ x3))) (h3 : ((x4 ≤ x5) ∧ (x5 ≤ (x4 + (x3 - x2))))) (h4 : ((x0 ≤ x6) ∧ (x6 ≤ ((x0 + (4 : Int)) + ((12 : Int) * x7))))) (h5 : (((0 : Int) ≤ x1) ∧ (x1 ≤ (30 : Int)))) (h6 : (x4 = (x6 + x1))) (h7 : (x8 = (x5 + (2 : Int)))) (h8 : (((0 : Int) ≤ x8) ∧ (x8 ≤ (100000000 : Int)))) : ((x0 ≤ x8) ∧ (x8 ≤ ((x0 + (4 : Int)) + ((12 : Int) * ((x7 + (1 : Int)) + x3))))) := by omega
theorem q_2482 {x0 x1 x2 x3 x4 : Int} (h0 : (x0 < (10 : Int))) (h1 : ((x1 ≤ x2) ∧ (x2 ≤ ((x1 + (4 : Int)) + ((12 : Int) * x3))))) (h2 : (((0 : Int) ≤ x0) ∧ (x0 ≤ (30 : Int)))) (h3 : (x4 = (x2 + x0))) : ((x1 ≤ x4) ∧ (x4 ≤ ((x1 + (4 : Int)) + ((12 : Int) * (x3 + (1 : Int)))))) := by omega
theorem q_2483 {x0 x1 : Int} (h0 : (((0 : Int) ≤ x0) ∧ (x0 ≤ (512 : Int)))) (h1 : ((x1 ≤ (x0 + (1 : Int))) ∧ ((x0 + (1 : Int)) < ((2 : Int) * x1)))) : (inr x1) := by omega
theorem q_2484 {x0 x1 x2 : Int} (h0 : (((((2 : Int) * x0) - (2 : Int)) - x1) ≤ (x2 + (1 : Int)))) (h1 : ((x0 ≤ (x1 + (1 : Int))) ∧ ((x1 + (1 : Int)) < ((2 : Int) * x0)))) : ((-(1 : Int)) ≤ ((x2 + (1 : Int)) - (1 : Int))) := by omega
theorem q_2485 {x0 x1 x2 x3 x4 x5 x6 x7 x8 : Int} (h0 : (((0 : Int) ≤ x0) ∧ (x0 ≤ (1000000 : Int)))) (h1 : (x1 < (10 : Int))) (h2 : (((0 : Int) ≤ x2) ∧ (x2 ≤ x3))) (h3 : ((x4 ≤ x5) ∧ (x5 ≤ (x4 + (x3 - x2))))) (h4 : ((x0 ≤ x6) ∧ (x6 ≤ ((x0 + (4 : Int)) + ((12 : Int) * x7))))) (h5 : (x4 = (x6 + (x1 + (1 : Int))))) (h6 : (x8 = (x5 + (2 : Int)))) (h7 : (((0 : Int) ≤ x1) ∧ (x1 ≤ (30 : Int)))) (h8 : (((0 : Int) ≤ x8) ∧ (x8 ≤ (100000000 : Int)))) : ((x0 ≤ x8) ∧ (x8 ≤ ((x0 + (4 : Int)) + ((12 : Int) * ((x7 + (1 : Int)) + x3))))) := by omega
theorem q_2486 {x0 x1 x2 x3 : Int} (h0 : (x0 ≤ (x1 + (1 : Int)))) (h1 : ((x1 + (1 : Int)) = (1 : Int))) (h2 : ((0 : Int) < x2)) (h3 : (inr x3)) (h4 : ((x0 ≤ (x2 + (1 : Int))) ∧ ((x2 + (1 : Int)) < ((2 : Int) * x0)))) : (((0 : Int) ≤ (x2 - x3)) ∧ ((x2 - x3) ≤ (512 : Int))) := by omega
theorem q_2487 {x0 x1 x2 x3 x4 x5 : Int} (h0 : (x0 ≤ (x1 + (1 : Int)))) (h1 : ((x1 + (1 : Int)) = (1 : Int))) (h2 : ((0 : Int) < x2)) (h3 : ((x0 ≤ (x2 + (1 : Int))) ∧ ((x2 + (1 : Int)) < ((2 : Int) * x0)))) : ((x2 - x3) = (x4 - x5)) := by omega
theorem q_2488 {x0 x1 x2 x3 : Int} (h0 : (x0 ≤ (x1 + (1 : Int)))) (h1 : ((x1 + (1 : Int)) = (1 : Int))) (h2 : ((0 : Int) < x2)) (h3 : (inr x3)) (h4 : ((x0 ≤ (x2 + (1 : Int))) ∧ ((x2 + (1 : Int)) < ((2 : Int) * x0)))) : (inr (x2 - x3)) := by omega
theorem q_2489 {x0 x1 x2 x3 x4 : Int} (h0 : (((0 : Int) ≤ x0) ∧ (x0 ≤ (1000000 : Int)))) (h1 : (x1 < (10 : Int))) (h2 : ((x0 ≤ x2) ∧ (x2 ≤ ((x0 + (4 : Int)) + ((12 : Int) * x3))))) (h3 : (x4 = (x2 + (x1 + (1 : Int))))) (h4 : (((0 : Int) ≤ x1) ∧ (x1 ≤ (30 : Int)))) (h5 : (((0 : Int) ≤ x4) ∧ (x4 ≤ (100000000 : Int)))) : ((x0 ≤ x4) ∧ (x4 ≤ ((x0 + (4 : Int)) + ((12 : Int) * (x3 + (1 : Int)))))) := by omega
theorem q_2490 {x0 x1 x2 : Int} (h0 : ((x0 + (1 : Int)) < ((((2 : Int) * x1) - (2 : Int)) - x2))) (h1 : (((((2 : Int) * x1) - (2 : Int)) - x2) ≤ (x0 + (1 : Int)))) (h2 : (((0 : Int) ≤ x2) ∧ (x2 ≤ (512 : Int)))) (h3 : ((x1 ≤ (x2 + (1 : Int))) ∧ ((x2 + (1 : Int)) < ((2 : Int) * x1)))) : (inr ((x0 + (1 : Int)) + ((((2 : Int) * x1) - (2 : Int)) - x2))) := by omega
theorem q_2491 {x0 x1 x2 x3 x4 x5 x6 x7 x8 : Int} (h0 : (((0 : Int) ≤ x0) ∧ (x0 ≤ (1000000 : Int)))) (h1 : (x1 < (10 : Int))) (h2 : (((0 : Int) ≤ x2) ∧ (x2 ≤ x3))) (h3 : ((x4 ≤ x5) ∧ (x5 ≤ (x4 + (x3 - x2))))) (h4 : ((x0 ≤ x6) ∧ (x6 ≤ ((x0 + (4 : Int)) + ((12 : Int) * x7))))) (h5 : (x4 = (x6 + x1))) (h6 : (x8 = (x5 + (2 : Int)))) (h7 : (((0 : Int) ≤ x1) ∧ (x1 ≤ (30 : Int)))) (h8 : (((0 : Int) ≤ x8) ∧ (x8 ≤ (100000000 : Int)))) : ((x0 ≤ x8) ∧ (x8 ≤ ((x0 + (4 : Int)) + ((12 : Int) * ((x7 + (1 : Int)) + x3))))) := by omega
theorem q_2492 {x0 x1 x2 x3 : Int} (h0 : ((x0 + (1 : Int)) < ((((2 : Int) * x1) - (2 : Int)) - x2))) (h1 : ((0 : Int) < x2)) (h2 : (((((2 : Int) * x1) - (2 : Int)) - x2) ≤ (x0 + (1 : Int)))) (h3 : (((0 : Int) ≤ x2) ∧ (x2 ≤ (512 : Int)))) (h4 : (inr x3)) : (((0 : Int) ≤ (x2 - x3)) ∧ ((x2 - x3) ≤ (512 : Int))) := by omega
theorem q_2493 {x0 x1 x2 x3 : Int} (h0 : ((x0 + (1 : Int)) < ((((2 : Int) * x1) - (2 : Int)) - x2))) (h1 : ((0 : Int) < x2)) (h2 : (((((2 : Int) * x1) - (2 : Int)) - x2) ≤ (x0 + (1 : Int)))) (h3 : (((0 : Int) ≤ x2) ∧ (x2 ≤ (512 : Int)))) (h4 : (inr x3)) : (inr (x2 - x3)) := by omega
theorem q_2494 {x0 x1 x2 x3 x4 : Int} (h0 : (x0 < (10 : Int))) (h1 : ((x1 ≤ x2) ∧ (x2 ≤ ((x1 + (4 : Int)) + ((12 : Int) * x3))))) (h2 : (x4 = (x2 + x0))) (h3 : (((0 : Int) ≤ x0) ∧ (x0 ≤ (30 : Int)))) : ((x1 ≤ x4) ∧ (x4 ≤ ((x1 + (4 : Int)) + ((12 : Int) * (x3 + (1 : Int)))))) := by omega
theorem q_2495 {x0 x1 x2 : Int} (h0 : ((x0 + (1 : Int)) < x1)) (h1 : (((0 : Int) ≤ x2) ∧ (x2 ≤ (512 : Int)))) (h2 : ((x1 ≤ (x2 + (1 : Int))) ∧ ((x2 + (1 : Int)) < ((2 : Int) * x1)))) (h3 : (((-(2147483648 : Int)) ≤ x0) ∧ (x0 ≤ (2147483647 : Int)))) : (inr (x0 + (1 : Int))) := by omega
theorem q_2496 {x0 : Int} (h0 : (x0 = (0 : Int))) (h1 : (((0 : Int) ≤ x0) ∧ (x0 ≤ (100000000 : Int)))) : (((0 : Int) ≤ x0) ∧ (x0 ≤ (90000000 : Int))) := by omega
theorem q_2497 : (((0 : Int) ≤ (8 : Int)) ∧ ((8 : Int) ≤ (31 : Int))) := by omega
theorem q_2498 {x0 : Int} (h0 : (((5 : Int) ≤ x0) ∧ (x0 ≤ (6 : Int)))) : (((5 : Int) ≤ x0) ∧ (x0 ≤ (9 : Int))) := by omega
theorem q_2499 {x0 : Int} (h0 : (((2 : Int) ≤ x0) ∧ (x0 ≤ (255 : Int)))) (h1 : (((-(1 : Int)) ≤ x0) ∧ (x0 ≤ (255 : Int)))) : (((1 : Int) ≤ x0) ∧ (x0 ≤ (8001 : Int))) := by omega
theorem q_2500 {x0 : Int} (h0 : (((-(1 : Int)) ≤ x0) ∧ (x0 ≤ (255 : Int)))) : (inr x0) := by omega
theorem q_2501 : ((0 : Int) ≤ (11 : Int)) := by omega
theorem q_2502 {x0 x1 : Int} (h0 : (x0 = (x1 + (8 : Int)))) (h1 : (x1 = (0 : Int))) (h2 : (((0 : Int) ≤ x0) ∧ (x0 ≤ (100000000 : Int)))) : (((0 : Int) ≤ x0) ∧ (x0 ≤ (1000000 : Int))) := by omega
theorem q_2503 : (((0 : Int) ≤ (0 : Int)) ∧ (((0 : Int) + (64 : Int)) ≤ (64 : Int))) := by omega
theorem q_2504 : (((0 : Int) ≤ (0 : Int)) ∧ (((1 : Int) ≤ (64 : Int)) ∧ (((64 : Int) ≤ (64 : Int)) ∧ (((0 : Int) + (64 : Int)) ≤ (64 : Int))))) := by omega
theorem q_2505 : (inr (1536 : Int)) := by omega
theorem q_2506 {x0 : Int} (h0 : (((2 : Int) ≤ x0) ∧ (x0 ≤ (255 : Int)))) (h1 : (((-(1 : Int)) ≤ x0) ∧ (x0 ≤ (255 : Int)))) : (((0 : Int) ≤ (x0 - (1 : Int))) ∧ ((x0 - (1 : Int)) < ((257 : Nat) : Int))) := by omega
theorem q_2507 {x0 : Int} (h0 : (((2 : Int) ≤ x0) ∧ (x0 ≤ (255 : Int)))) (h1 : (((-(1 : Int)) ≤ x0) ∧ (x0 ≤ (255 : Int)))) : (((0 : Int) ≤ (x0 - (2 : Int))) ∧ ((x0 - (2 : Int)) < ((257 : Nat) : Int))) := by omega
theorem q_2508 {x0 x1 : Int} : ((x0 ≤ x0) ∧ (x0 ≤ (x0 + ((6 : Int) * ((x1 - (3 : Int)) - (x1 - (3 : Int))))))) := by omega
theorem q_2509 {x0 : Int} (h0 : (((2 : Int) ≤ x0) ∧ (x0 ≤ (255 : Int)))) : (((-(1 : Int)) ≤ (x0 - (3 : Int))) ∧ ((x0 - (3 : Int)) ≤ (x0 - (3 : Int)))) := by omega
theorem q_2510 {x0 : Int} (h0 : (((-(1 : Int)) ≤ x0) ∧ (x0 ≤ (255 : Int)))) : (inr (x0 - (3 : Int))) := by omega
theorem q_2511 {x0 x1 x2 x3 x4 x5 : Int} (h0 : (((-(1 : Int)) ≤ x0) ∧ (x0 ≤ (x1 - (3 : Int))))) (h1 : ((x2 ≤ x3) ∧ (x3 ≤ (x2 + ((6 : Int) * ((x1 - (3 : Int)) - x0)))))) (h2 : (x4 = (x5 + (8 : Int)))) (h3 : ((x4 ≤ x2) ∧ (x2 ≤ ((x4 + (11 : Int)) + ((12 : Int) * ((11 : Int) + (1 : Int))))))) (h4 : (x5 = (0 : Int))) (h5 : (((-(1 : Int)) ≤ x1) ∧ (x1 ≤ (255 : Int)))) (h6 : (((0 : Int) ≤ x3) ∧ (x3 ≤ (100000000 : Int)))) : (((0 : Int) ≤ x3) ∧ (x3 ≤ (90000000 : Int))) := by omega
theorem q_2512 {x0 : Int} (h0 : (((5 : Int) ≤ x0) ∧ (x0 ≤ (6 : Int)))) : (((0 : Int) ≤ x0) ∧ (x0 ≤ (31 : Int))) := by omega
theorem q_2513 : (((0 : Int) ≤ (0 : Int)) ∧ ((0 : Int) < ((24000 : Nat) : Int))) := by omega
theorem q_2514 {x0 : Int} (h0 : ((x0 % (8 : Int)) = (0 : Int))) (h1 : (((0 : Int) ≤ x0) ∧ (x0 ≤ (100000000 : Int)))) : (inr (x0 / (8 : Int))) := by omega
theorem q_2515 {x0 x1 x2 x3 : Int} (h0 : ((0 : Int) ≤ x0)) (h1 : ((x1 ≤ x2) ∧ (x2 ≤ (x1 + ((6 : Int) * ((x3 - (3 : Int)) - x0)))))) (h2 : (((-(1 : Int)) ≤ x3) ∧ (x3 ≤ (255 : Int)))) : (((0 : Int) ≤ x0) ∧ (x0 < ((257 : Nat) : Int))) := by omega
theorem q_2516 {x0 x1 x2 x3 x4 x5 : Int} (h0 : ((0 : Int) ≤ x0)) (h1 : ((x1 ≤ x2) ∧ (x2 ≤ (x1 + ((6 : Int) * ((x3 - (3 : Int)) - x0)))))) (h2 : (x4 = (x5 + (8 : Int)))) (h3 : ((x4 ≤ x1) ∧ (x1 ≤ ((x4 + (11 : Int)) + ((12 : Int) * ((11 : Int) + (1 : Int))))))) (h4 : (x5 = (0 : Int))) (h5 : (((-(1 : Int)) ≤ x3) ∧ (x3 ≤ (255 : Int)))) (h6 : (((0 : Int) ≤ x2) ∧ (x2 ≤ (100000000 : Int)))) : (((0 : Int) ≤ x2) ∧ (x2 ≤ (90000000 : Int))) := by omega
theorem q_2517 {x0 x1 x2 : Int} (h0 : (inr x0)) (h1 : (((0 : Int) ≤ x0) ∧ (x0 < x1))) (h2 : (((0 : Int) ≤ x2) ∧ (x2 ≤ (511 : Int)))) : (inr (x0 - x2)) := by omega
theorem q_2518 {x0 x1 x2 x3 : Int} (h0 : ((0 : Int) ≤ x0)) (h1 : ((x1 ≤ x2) ∧ (x2 ≤ (x1 + ((6 : Int) * ((x3 - (3 : Int)) - x0)))))) : (((-(1 : Int)) ≤ (x0 + (-(1 : Int)))) ∧ ((x0 + (-(1 : Int))) ≤ (x3 - (3 : Int)))) := by omega
theorem q_2519 : (((-(1 : Int)) ≤ (255 : Int)) ∧ ((255 : Int) ≤ (255 : Int))) := by omega
theorem q_2520 {x0 : Int} (h0 : (((0 : Int) ≤ x0) ∧ (x0 ≤ (255 : Int)))) (h1 : (((-(1 : Int)) ≤ x0) ∧ (x0 ≤ (255 : Int)))) : (((0 : Int) ≤ x0) ∧ (x0 < ((256 : Nat) : Int))) := by omega
theorem q_2521 {x0 x1 : Int} (h0 : (x0 ≤ x1)) (h1 : ((x1 ≤ (0 : Int)) ∨ (x1 ≤ x0))) (h2 : (((0 : Int) ≤ x0) ∧ (x0 ≤ (255 : Int)))) : (x1 = x0) := by omega
theorem q_2522 {x0 x1 x2 x3 : Int} (h0 : (x0 < x1)) (h1 : (((0 : Int) ≤ x2) ∧ (x2 ≤ (255 : Int)))) (h2 : ((x1 = (9999 : Int)) ∨ (((1 : Int) ≤ x1) ∧ ((x1 ≤ (256 : Int)) ∧ (((2 : Int) ≤ x3) ∧ ((2 : Int) ≤ x2)))))) (h3 : ((x0 = (9999 : Int)) ∨ (((1 : Int) ≤ x0) ∧ ((x0 ≤ (256 : Int)) ∧ (((2 : Int) ≤ x3) ∧ ((2 : Int) ≤ x2)))))) (h4 : (((-(1 : Int)) ≤ x2) ∧ (x2 ≤ (255 : Int)))) : (((2 : Int) ≤ x2) ∧ (x2 ≤ (255 : Int))) := by omega
theorem q_2523 {x0 x1 : Int} (h0 : (((0 : Int) ≤ x0) ∧ (x0 ≤ (2047 : Int)))) : ((x1 = (-(2 : Int))) ∨ (((0 : Int) ≤ x0) ∧ (x0 ≤ (2047 : Int)))) := by omega
theorem q_2524 {x0 : Int} (h0 : (((-(1 : Int)) ≤ x0) ∧ (x0 ≤ (255 : Int)))) : (inr ((127 : Int) + x0)) := by omega
theorem q_2525 {x0 : Int} : ((x0 ≤ x0) ∧ (x0 ≤ (x0 + ((4 : Int) * (0 : Int))))) := by omega
theorem q_2526 {x0 : Int} (h0 : (((-(1 : Int)) ≤ x0) ∧ (x0 ≤ (255 : Int)))) : (((0 : Int) ≤ (0 : Int)) ∧ ((0 : Int) ≤ (x0 + (1 : Int)))) := by omega
theorem q_2529 {x0 x1 : Int} (h0 : (x0 < x1)) (h1 : (((0 : Int) ≤ x0) ∧ (x0 ≤ (x1 + (1 : Int))))) (h2 : (((-(1 : Int)) ≤ x1) ∧ (x1 ≤ (255 : Int)))) : (((0 : Int) ≤ x0) ∧ (x0 < ((257 : Nat) : Int))) := by omega
theorem q_2531 {x0 x1 x2 x3 x4 : Int} (h0 : ((x0 ≤ x1) ∧ (x1 ≤ (x0 + ((4 : Int) * x2))))) (h1 : (x3 = (x1 + (4 : Int)))) (h2 : (x4 = (x3 + (4 : Int)))) : ((x0 ≤ x4) ∧ (x4 ≤ (x0 + ((4 : Int) * (x2 + (2 : Int)))))) := by omega
theorem q_2532 {x0 x1 x2 x3 : Int} (h0 : (x0 < x1)) (h1 : ((x2 ≤ x3) ∧ (x3 ≤ (x2 + ((4 : Int) * x0))))) : (((0 : Int) ≤ (x0 + (2 : Int))) ∧ ((x0 + (2 : Int)) ≤ (x1 + (1 : Int)))) := by omega
theorem q_2533 {x0 x1 x2 x3 : Int} (h0 : (x0 < x1)) (h1 : ((x2 ≤ x3) ∧ (x3 ≤ (x2 + ((4 : Int) * x0))))) (h2 : (((-(1 : Int)) ≤ x1) ∧ (x1 ≤ (255 : Int)))) : (inr (x0 + (2 : Int))) := by omega
theorem q_2534 {x0 x1 : Int} : (((x0 + (1 : Int)) - (x1 + (2 : Int))) < ((x0 + (1 : Int)) - x1)) := by omega
theorem q_2535 {x0 x1 x2 x3 : Int} (h0 : (x0 < x1)) (h1 : ((x2 ≤ x3) ∧ (x3 ≤ (x2 + ((4 : Int) * x0))))) (h2 : (((-(1 : Int)) ≤ x1) ∧ (x1 ≤ (255 : Int)))) : (inr (x0 + (1 : Int))) := by omega
theorem q_2536 {x0 x1 x2 : Int} (h0 : (x0 ≤ (x1 + (1 : Int)))) : ((((x1 + (1 : Int)) ≥ x0) ∧ ((0 : Int) = (0 : Int))) ∨ (((x1 + (1 : Int)) < x0) ∧ (((-(2147483648 : Int)) ≤ x2) ∧ ((x2 ≤ (2147483647 : Int)) ∧ ((0 : Int) = x2))))) := by omega
theorem q_2537 {x0 x1 x2 x3 : Int} (h0 : ((x0 + (1 : Int)) < x1)) (h1 : ((x2 ≤ x3) ∧ (x3 ≤ (x2 + ((4 : Int) * x0))))) (h2 : (((-(1 : Int)) ≤ x1) ∧ (x1 ≤ (255 : Int)))) : (((0 : Int) ≤ (x0 + (1 : Int))) ∧ ((x0 + (1 : Int)) < ((257 : Nat) : Int))) := by omega
theorem q_2538 {x0 x1 x2 x3 : Int} (h0 : ((x0 + (1 : Int)) < x1)) (h1 : (x2 = x3)) (h2 : (((-(2147483648 : Int)) ≤ x3) ∧ (x3 ≤ (2147483647 : Int)))) : ((((x0 + (1 : Int)) ≥ x1) ∧ (x3 = (0 : Int))) ∨ (((x0 + (1 : Int)) < x1) ∧ (((-(2147483648 : Int)) ≤ x2) ∧ ((x2 ≤ (2147483647 : Int)) ∧ (x3 = x2))))) := by omega
theorem q_2539 : (inr (9999 : Int)) := by omega
theorem q_2540 {x0 x1 : Int} (h0 : (x0 ≠ (9999 : Int))) : ((x0 ≠ (9999 : Int)) ∨ ((x0 = (9999 : Int)) ∧ (x1 ≠ (9999 : Int)))) := by omega
theorem q_2541 {x0 x1 : Int} (h0 : (x0 = (9999 : Int))) (h1 : (x1 ≠ (9999 : Int))) : ((x0 ≠ (9999 : Int)) ∨ ((x0 = (9999 : Int)) ∧ (x1 ≠ (9999 : Int)))) := by omega
theorem q_2542 {x0 : Int} : (((-(2 : Int)) = (-(2 : Int))) ∨ (((0 : Int) ≤ x0) ∧ (x0 ≤ (2047 : Int)))) := by omega
theorem q_2543 : (((-(2 : Int)) = (-(2 : Int))) ∨ (((1 : Int) ≤ (-(2 : Int))) ∧ ((-(2 : Int)) ≤ (128 : Int)))) := by omega
theorem q_2544 {x0 : Int} (h0 : (x0 ≤ (128 : Int))) : (((x0 ≤ (128 : Int)) ∧ (x0 = x0)) ∨ ((x0 > (128 : Int)) ∧ (x0 = (9999 : Int)))) := by omega
theorem q_2545 {x0 : Int} (h0 : ((128 : Int) < x0)) : (((x0 ≤ (128 : Int)) ∧ ((9999 : Int) = x0)) ∨ ((x0 > (128 : Int)) ∧ ((9999 : Int) = (9999 : Int)))) := by omega
theorem q_2546 {x0 x1 : Int} (h0 : (x0 ≤ x1)) : (((x1 ≥ x0) ∧ (x0 = x0)) ∨ ((x1 < x0) ∧ (x0 = x1))) := by omega
theorem q_2547 {x0 x1 : Int} (h0 : (x0 < x1)) : (((x0 ≥ x1) ∧ (x0 = x1)) ∨ ((x0 < x1) ∧ (x0 = x0))) := by omega
theorem q_2548 {x0 x1 : Int} : (((9999 : Int) = (9999 : Int)) ∨ (((1 : Int) ≤ (9999 : Int)) ∧ (((9999 : Int) ≤ (256 : Int)) ∧ (((2 : Int) ≤ x0) ∧ ((2 : Int) ≤ x1))))) := by omega
theorem q_2549 {x0 : Int} (h0 : ((2 : Int) ≤ x0)) (h1 : (((-(1 : Int)) ≤ x0) ∧ (x0 ≤ (255 : Int)))) : (((2 : Int) ≤ x0) ∧ (x0 ≤ (255 : Int))) := by omega
theorem q_2550 {x0 x1 x2 : Int} (h0 : ((2 : Int) ≤ x0)) (h1 : ((2 : Int) ≤ x1)) (h2 : (((1 : Int) ≤ x2) ∧ (x2 ≤ (256 : Int)))) : ((x2 = (9999 : Int)) ∨ (((1 : Int) ≤ x2) ∧ ((x2 ≤ (256 : Int)) ∧ (((2 : Int) ≤ x0) ∧ ((2 : Int) ≤ x1))))) := by omega
theorem q_2551 {x0 : Int} (h0 : (x0 ≤ (128 : Int))) (h1 : (((-(1 : Int)) ≤ x0) ∧ (x0 ≤ (255 : Int)))) : ((inr (x0 + (1 : Int))) ∧ ((0 : Int) ≤ (x0 + (1 : Int)))) := by omega
theorem q_2552 {x0 : Int} (h0 : (x0 ≤ (128 : Int))) : (((x0 ≤ (128 : Int)) ∧ (((1 : Int) + ((x0 + (1 : Int)) / (2 : Int))) = ((1 : Int) + ((x0 + (1 : Int)) / (2 : Int))))) ∨ ((x0 > (128 : Int)) ∧ (((1 : Int) + ((x0 + (1 : Int)) / (2 : Int))) = (9999 : Int)))) := by omega
theorem q_2553 {x0 : Int} (h0 : (x0 ≤ (128 : Int))) (h1 : (((-(1 : Int)) ≤ x0) ∧ (x0 ≤ (255 : Int)))) : (inr ((1 : Int) + ((x0 + (1 : Int)) / (2 : Int)))) := by omega
theorem q_2554 {x0 : Int} (h0 : ((128 : Int) < x0)) : (((x0 ≤ (128 : Int)) ∧ ((9999 : Int) = ((1 : Int) + ((x0 + (1 : Int)) / (2 : Int))))) ∨ ((x0 > (128 : Int)) ∧ ((9999 : Int) = (9999 : Int)))) := by omega
theorem q_2555 {x0 : Int} (h0 : (((1 : Int) ≤ x0) ∧ (x0 ≤ (11 : Int)))) : (((0 : Int) ≤ x0) ∧ (x0 ≤ (11 : Int))) := by omega
theorem q_2556 {x0 x1 : Int} (h0 : (x0 < x1)) (h1 : ((0 : Int) ≤ x0)) (h2 : (((-(1 : Int)) ≤ x1) ∧ (x1 ≤ (255 : Int)))) : (((0 : Int) ≤ x0) ∧ (x0 ≤ (255 : Int))) := by omega
theorem q_2557 {x0 : Int} (h0 : (((0 : Int) ≤ x0) ∧ (x0 ≤ (11 : Int)))) : (((-(2147483648 : Int)) ≤ x0) ∧ (x0 ≤ (2147483647 : Int))) := by omega
theorem q_2558 {x0 x1 : Int} (h0 : (x0 < x1)) (h1 : ((0 : Int) ≤ x0)) (h2 : (((-(1 : Int)) ≤ x1) ∧ (x1 ≤ (255 : Int)))) : (((0 : Int) ≤ x0) ∧ (x0 < ((257 : Nat) : Int))) := by omega
theorem q_2559 {x0 x1 : Int} (h0 : (((0 : Int) ≤ x0) ∧ (x0 ≤ x1))) : (((0 : Int) ≤ x0) ∧ (x0 ≤ (x1 + (1 : Int)))) := by omega
theorem q_2560 {x0 x1 : Int} (h0 : (x0 < x1)) (h1 : ((0 : Int) ≤ x0)) (h2 : (((-(1 : Int)) ≤ x1) ∧ (x1 ≤ (255 : Int)))) : (inr (x0 + (1 : Int))) := by omega
theorem q_2561 {x0 x1 x2 : Int} (h0 : (x0 < x1)) (h1 : (((0 : Int) ≤ x2) ∧ (x2 ≤ x0))) (h2 : (((-(1 : Int)) ≤ x1) ∧ (x1 ≤ (255 : Int)))) : (inr (x2 + (1 : Int))) := by omega
theorem q_2562 {x0 : Int} (h0 : (((0 : Int) ≤ x0) ∧ (x0 ≤ (255 : Int)))) (h1 : (((-(1 : Int)) ≤ x0) ∧ (x0 ≤ (255 : Int)))) : (((-(1 : Int)) ≤ (x0 - (1 : Int))) ∧ ((x0 - (1 : Int)) ≤ (255 : Int))) := by omega
theorem q_2563 {x0 : Int} : (((x0 - (1 : Int)) + (1 : Int)) < (x0 + (1 : Int))) := by omega
theorem q_2564 {x0 : Int} (h0 : (((0 : Int) ≤ x0) ∧ (x0 ≤ (255 : Int)))) : ((0 : Int) < (x0 + (1 : Int))) := by omega
theorem q_2565 {x0 : Int} (h0 : (x0 = (0 : Int))) (h1 : (((0 : Int) ≤ x0) ∧ (x0 ≤ (100000000 : Int)))) : (((0 : Int) ≤ x0) ∧ (x0 ≤ (1000 : Int))) := by omega
theorem q_2566 {x0 x1 x2 : Int} (h0 : (x0 = (0 : Int))) (h1 : ((x0 ≤ x1) ∧ (x1 ≤ ((x0 + ((11 : Int) * x2)) + (100 : Int))))) (h2 : (((0 : Int) ≤ x2) ∧ (x2 ≤ (16385 : Int)))) (h3 : (((0 : Int) ≤ x1) ∧ (x1 ≤ (100000000 : Int)))) : (((0 : Int) ≤ x1) ∧ (x1 ≤ (192000 : Int))) := by omega
theorem q_2567 {x0 : Int} (h0 : (x0 = (0 : Int))) (h1 : (((0 : Int) ≤ x0) ∧ (x0 ≤ (100000000 : Int)))) : (((0 : Int) ≤ x0) ∧ (x0 ≤ (1000000 : Int))) := by omega
theorem q_2568 {x0 x1 x2 : Int} (h0 : (x0 < (1024 : Int))) (h1 : (x1 = (0 : Int))) (h2 : ((x1 ≤ x2) ∧ (x2 ≤ ((x1 + ((11 : Int) * (x0 - (0 : Int)))) + (8 : Int))))) (h3 : (((0 : Int) ≤ x2) ∧ (x2 ≤ (100000000 : Int)))) : (((0 : Int) ≤ x2) ∧ (x2 ≤ (192000 : Int))) := by omega
theorem q_2569 {x0 : Int} : ((x0 ≤ x0) ∧ (x0 ≤ (x0 + (5 : Int)))) := by omega
theorem q_2570 : (((-(2 : Int)) ≤ (0 : Int)) ∧ ((0 : Int) ≤ (20000 : Int))) := by omega
theorem q_2572 {x0 : Int} (h0 : (((0 : Int) ≤ x0) ∧ (x0 ≤ (16385 : Int)))) : (((0 : Int) ≤ (0 : Int)) ∧ ((0 : Int) ≤ (x0 + (1 : Int)))) := by omega
theorem q_2575 {x0 x1 : Int} : (((x0 + (2 : Int)) - (x1 + (1 : Int))) < ((x0 + (2 : Int)) - x1)) := by omega
theorem q_2576 {x0 x1 : Int} (h0 : (((0 : Int) ≤ x0) ∧ (x0 ≤ (x1 + (1 : Int))))) : ((0 : Int) < ((x1 + (2 : Int)) - x0)) := by omega
theorem q_2579 {x0 : Int} (h0 : (inr x0)) : (inrJ x0) := by omega
theorem q_2580 {x0 : Int} : ((x0 ≤ x0) ∧ (x0 ≤ (x0 + (300 : Int)))) := by omega
theorem q_2581 {x0 x1 : Int} (h0 : ((x0 = (0 : Int)) ∨ (((x0 = (1 : Int)) ∧ ((1 : Int) ≤ x1)) ∨ (x0 = (3 : Int))))) (h1 : (((0 : Int) ≤ x1) ∧ (x1 ≤ (16385 : Int)))) : ((x0 ≠ (1 : Int)) ∨ ((1 : Int) ≤ x1)) := by omega
theorem q_2582 {x0 x1 : Int} (h0 : ((x0 = (0 : Int)) ∨ (((x0 = (1 : Int)) ∧ ((1 : Int) ≤ x1)) ∨ (x0 = (3 : Int))))) : (((0 : Int) ≤ x0) ∧ (x0 ≤ (3 : Int))) := by omega
theorem q_2583 {x0 x1 : Int} (h0 : ((1 : Int) < x0)) : ((x1 ≠ (1 : Int)) ∨ ((1 : Int) ≤ x0)) := by omega
theorem q_2584 {x0 x1 : Int} (h0 : ((x0 = (-(2 : Int))) ∨ (((1 : Int) ≤ x0) ∧ (x0 ≤ (128 : Int))))) (h1 : ((x0 = (-(2 : Int))) ∨ (((0 : Int) ≤ x1) ∧ (x1 ≤ (2047 : Int))))) : (((-(2 : Int)) ≤ x0) ∧ (x0 ≤ (20000 : Int))) := by omega
theorem q_2585 {x0 : Int} (h0 : (((0 : Int) ≤ x0) ∧ (x0 ≤ (50000000 : Int)))) (h1 : (((0 : Int) ≤ x0) ∧ (x0 ≤ (100000000 : Int)))) : (((0 : Int) ≤ x0) ∧ (x0 ≤ (80000000 : Int))) := by omega
theorem q_2586 {x0 x1 : Int} (h0 : (x0 = (2 : Int))) : ((x0 ≠ (1 : Int)) ∨ ((1 : Int) ≤ x1)) := by omega
theorem q_2587 {x0 : Int} (h0 : (x0 = (2 : Int))) : (((0 : Int) ≤ x0) ∧ (x0 ≤ (3 : Int))) := by omega
theorem q_2588 {x0 x1 x2 : Int} (h0 : (inr x0)) (h1 : ((x1 ≤ x0) ∧ (x0 ≤ (70000 : Int)))) (h2 : (((3 : Int) ≤ x2) ∧ (x2 ≤ (5 : Int)))) : (inr (x2 + x0)) := by omega
theorem q_2589 {x0 x1 x2 : Int} (h0 : ((0 : Int) < x0)) (h1 : ((0 : Int) ≤ x1)) : ((((2 : Int) = (2 : Int)) ∧ (((1 : Int) ≤ x0) ∧ ((0 : Int) ≤ x1))) ∨ (((2 : Int) = x2) ∧ ((2 : Int) ≠ (2 : Int)))) := by omega
theorem q_2590 {x0 : Int} (h0 : (((0 : Int) ≤ x0) ∧ (x0 ≤ (20000 : Int)))) : (((0 : Int) ≤ x0) ∧ (x0 ≤ (100000 : Int))) := by omega
theorem q_2591 {x0 x1 : Int} (h0 : (((0 : Int) ≤ x0) ∧ (x0 ≤ (70000 : Int)))) (h1 : (((3 : Int) ≤ x1) ∧ (x1 ≤ (5 : Int)))) : (inr (x1 + x0)) := by omega
theorem q_2592 {x0 x1 : Int} (h0 : (((0 : Int) ≤ x0) ∧ (x0 ≤ (70000 : Int)))) (h1 : (((3 : Int) ≤ x1) ∧ (x1 ≤ (5 : Int)))) : (((0 : Int) ≤ (x1 + x0)) ∧ ((x1 + x0) ≤ (100000 : Int))) := by omega
theorem q_2593 {x0 : Int} : (((3 : Int) = (0 : Int)) ∨ ((((3 : Int) = (1 : Int)) ∧ ((1 : Int) ≤ x0)) ∨ ((3 : Int) = (3 : Int)))) := by omega
theorem q_2595 {x0 : Int} : (((0 : Int) = (0 : Int)) ∨ (((0 : Int) = (1 : Int)) ∧ ((1 : Int) ≤ x0))) := by omega
theorem q_2601 {x0 x1 : Int} (h0 : ((x0 + (1 : Int)) < (x0 + x1))) : (((1 : Int) = (0 : Int)) ∨ (((1 : Int) = (1 : Int)) ∧ ((1 : Int) ≤ x1))) := by omega
theorem q_2602 : (inr (4096 : Int)) := by omega
theorem q_2603 {x0 : Int} (h0 : ((32 : Int) ≤ x0)) (h1 : (((0 : Int) ≤ x0) ∧ (x0 ≤ (16385 : Int)))) : (inr x0) := by omega
theorem q_2607 {x0 x1 : Int} (h0 : (((0 : Int) ≤ x0) ∧ (x0 ≤ (2 : Int)))) (h1 : (((0 : Int) ≤ x1) ∧ (x1 ≤ (8000 : Int)))) : (((0 : Int) ≤ (((8001 : Int) * x0) + x1)) ∧ ((((8001 : Int) * x0) + x1) < ((24003 : Nat) : Int))) := by omega
theorem q_2608 {x0 : Int} (h0 : (((0 : Int) ≤ x0) ∧ (x0 ≤ (31 : Int)))) : (inr x0) := by omega
theorem q_2609 {x0 x1 x2 x3 : Int} (h0 : (x0 = x1)) (h1 : (x2 = (x3 + x1))) : (x2 = (x3 + x0)) := by omega
theorem q_2610 {x0 : Int} (h0 : (((0 : Int) ≤ x0) ∧ (x0 ≤ (70000000 : Int)))) (h1 : (((0 : Int) ≤ x0) ∧ (x0 ≤ (100000000 : Int)))) : (((0 : Int) ≤ x0) ∧ (x0 ≤ (80000000 : Int))) := by omega
theorem q_2611 : (((0 : Int) ≤ (0 : Int)) ∧ ((0 : Int) ≤ (2 : Int))) := by omega
theorem q_2612 : (((0 : Int) ≤ (1 : Int)) ∧ ((1 : Int) ≤ (2 : Int))) := by omega
theorem q_2613 {x0 x1 x2 x3 x4 x5 x6 : Int} (h0 : (x0 = (x1 + x2))) (h1 : (x3 = (x0 + x4))) (h2 : (x1 = (x5 + x6))) : (x3 = (((x5 + x6) + x2) + x4)) := by omega
theorem q_2614 : (((-(1 : Int)) ≤ (-(1 : Int))) ∧ ((-(1 : Int)) ≤ (72009 : Int))) := by omega
theorem q_2615 {x0 x1 : Int} (h0 : (((0 : Int) ≤ x0) ∧ (x0 ≤ (2 : Int)))) (h1 : (((0 : Int) ≤ x1) ∧ (x1 < (64 : Int)))) : (((0 : Int) ≤ (((64 : Int) * x0) + x1)) ∧ ((((64 : Int) * x0) + x1) < ((192 : Nat) : Int))) := by omega
theorem q_2616 : (((-(1 : Int)) ≤ (0 : Int)) ∧ ((0 : Int) ≤ (72009 : Int))) := by omega
theorem q_2617 {x0 : Int} (h0 : (((0 : Int) ≤ x0) ∧ (x0 ≤ (2 : Int)))) : (((0 : Int) ≤ ((64 : Int) * x0)) ∧ ((((64 : Int) * x0) + (64 : Int)) ≤ (192 : Int))) := by omega
theorem q_2618 {x0 : Int} (h0 : ((1 : Int) ≤ x0)) (h1 : (((0 : Int) ≤ x0) ∧ (x0 ≤ (8001 : Int)))) : (((1 : Int) ≤ x0) ∧ (x0 ≤ (8001 : Int))) := by omega
theorem q_2619 {x0 : Int} (h0 : (((0 : Int) ≤ x0) ∧ (x0 ≤ (63 : Int)))) : ((0 : Int) ≤ x0) := by omega
theorem q_2620 {x0 x1 x2 : Int} (h0 : (x0 = (0 : Int))) (h1 : ((x0 ≤ x1) ∧ (x1 ≤ ((x0 + (11 : Int)) + ((12 : Int) * (x2 + (1 : Int))))))) (h2 : (((0 : Int) ≤ x1) ∧ (x1 ≤ (100000000 : Int)))) : (((0 : Int) ≤ x1) ∧ (x1 ≤ ((11 : Int) + ((12 : Int) * (x2 + (1 : Int)))))) := by omega
theorem q_2621 {x0 x1 x2 x3 : Int} {p0 : Prop} (h0 : ((x0 * x1) ≤ ((9 : Int) * (8001 : Int)))) (h1 : (inr x2)) (h2 : ((x2 = (-(1 : Int))) ∨ ((x0 ≤ x2) ∧ (x2 ≤ (x0 * x1))))) (h3 : ((x2 ≠ (-(1 : Int))) → p0)) (h4 : (((0 : Int) ≤ x3) ∧ (x3 ≤ (100000000 : Int)))) : (inr (x3 + x2)) := by omega
theorem q_2622 : (((0 : Int) ≤ (0 : Int)) ∧ ((0 : Int) ≤ (80000 : Int))) := by omega
theorem q_2623 : (((5 : Int) ≤ (5 : Int)) ∧ ((5 : Int) ≤ (10 : Int))) := by omega
theorem q_2626 {x0 : Int} : (((12 : Int) - (x0 + (1 : Int))) < ((12 : Int) - x0)) := by omega
theorem q_2628 {x0 x1 x2 : Int} (h0 : (x0 < (0 : Int))) : ((x0 < (0 : Int)) ∨ ((x0 ≥ (0 : Int)) ∧ (x1 < x2))) := by omega
theorem q_2629 {x0 x1 x2 : Int} (h0 : ((0 : Int) ≤ x0)) (h1 : (x1 < x2)) : ((x0 < (0 : Int)) ∨ ((x0 ≥ (0 : Int)) ∧ (x1 < x2))) := by omega
theorem q_2630 {x0 : Int} (h0 : (((0 : Int) ≤ x0) ∧ (x0 ≤ (70000000 : Int)))) (h1 : (((0 : Int) ≤ x0) ∧ (x0 ≤ (100000000 : Int)))) : (((0 : Int) ≤ x0) ∧ (x0 ≤ (90000000 : Int))) := by omega
theorem q_2631 {x0 : Int} (h0 : (((5 : Int) ≤ x0) ∧ (x0 ≤ (9 : Int)))) : (inr x0) := by omega
theorem q_2632 {x0 x1 x2 : Int} (h0 : (x0 = x1)) (h1 : (x2 ≤ x0)) (h2 : (((0 : Int) ≤ x2) ∧ (x2 ≤ (16384 : Int)))) (h3 : (((0 : Int) ≤ x1) ∧ (x1 ≤ (16384 : Int)))) : (inr (x1 - x2)) := by omega
theorem q_2633 {x0 : Int} (h0 : (x0 < (15 : Int))) (h1 : (((0 : Int) ≤ x0) ∧ (x0 ≤ (30 : Int)))) : (((0 : Int) ≤ x0) ∧ (x0 ≤ (31 : Int))) := by omega
theorem q_2634 {x0 : Int} (h0 : (x0 < (15 : Int))) (h1 : (((0 : Int) ≤ x0) ∧ (x0 ≤ (30 : Int)))) : (((0 : Int) ≤ x0) ∧ ((x0 ≤ (63 : Int)) ∧ (((0 : Int) ≤ x0) ∧ (x0 ≤ (31 : Int))))) := by omega
theorem q_2635 {x0 : Int} (h0 : ((x0 % (8 : Int)) = (0 : Int))) : (x0 = ((8 : Int) * (x0 / (8 : Int)))) := by omega
theorem q_2636 {x0 x1 : Int} (h0 : (x0 = (0 : Int))) (h1 : (x1 = (x0 + (8 : Int)))) (h2 : (((0 : Int) ≤ x0) ∧ (x0 ≤ (100000000 : Int)))) : (x1 = ((8 : Int) + ((4 : Int) * (0 : Int)))) := by omega
theorem q_2637 {x0 x1 x2 x3 : Int} (h0 : (((0 : Int) ≤ x0) ∧ (x0 ≤ (x1 + (1 : Int))))) (h1 : (x2 = ((8 : Int) + ((4 : Int) * x0)))) (h2 : (((-(1 : Int)) ≤ x1) ∧ (x1 ≤ (255 : Int)))) (h3 : (((0 : Int) ≤ x2) ∧ (x2 ≤ (100000000 : Int)))) : ((x3 = (-(2 : Int))) ∨ (((0 : Int) ≤ x2) ∧ (x2 ≤ (2047 : Int)))) := by omega
theorem q_2638 {x0 x1 x2 : Int} (h0 : (x0 < x1)) (h1 : (x2 = ((8 : Int) + ((4 : Int) * x0)))) (h2 : (((-(1 : Int)) ≤ x1) ∧ (x1 ≤ (255 : Int)))) (h3 : (((0 : Int) ≤ x2) ∧ (x2 ≤ (100000000 : Int)))) : (((0 : Int) ≤ x2) ∧ (x2 ≤ (90000000 : Int))) := by omega
theorem q_2639 {x0 x1 x2 x3 : Int} (h0 : (x0 < x1)) (h1 : (x2 = ((8 : Int) + ((4 : Int) * x0)))) (h2 : (x3 = (x2 + (4 : Int)))) (h3 : (((-(1 : Int)) ≤ x1) ∧ (x1 ≤ (255 : Int)))) (h4 : (((0 : Int) ≤ x3) ∧ (x3 ≤ (100000000 : Int)))) : (((0 : Int) ≤ x3) ∧ (x3 ≤ (90000000 : Int))) := by omega
theorem q_2640 {x0 x1 x2 x3 : Int} (h0 : (x0 = ((8 : Int) + ((4 : Int) * x1)))) (h1 : (x2 = (x0 + (4 : Int)))) (h2 : (x3 = (x2 + (4 : Int)))) : (x3 = ((8 : Int) + ((4 : Int) * (x1 + (2 : Int))))) := by omega
theorem q_2641 {x0 : Int} (h0 : (((0 : Int) ≤ x0) ∧ (x0 ≤ (2 : Int)))) : (((0 : Int) ≤ ((8001 : Int) * x0)) ∧ (((8001 : Int) * x0) < ((24003 : Nat) : Int))) := by omega
theorem q_2643 {x0 x1 : Int} (h0 : ((x0 ≤ x1) ∧ (((0 : Int) ≤ x0) ∧ (x1 ≤ (52 : Int))))) : (((0 : Int) ≤ x1) ∧ (x1 ≤ (63 : Int))) := by omega
theorem q_2644 {x0 : Int} (h0 : (((0 : Int) ≤ x0) ∧ (x0 ≤ (100000000 : Int)))) : ((0 : Int) ≤ x0) := by omega
theorem q_2647 {x0 : Int} : ((x0 < (3 : Int)) ∨ ((0 : Int) = (0 : Int))) := by omega
theorem q_2648 {x0 : Int} (h0 : ((3 : Int) ≤ x0)) (h1 : (((0 : Int) ≤ x0) ∧ (x0 ≤ (3 : Int)))) : ((x0 = (0 : Int)) ∨ ((x0 = (1 : Int)) ∨ ((x0 = (2 : Int)) ∨ (x0 = (3 : Int))))) := by omega
theorem q_2649 {x0 x1 : Int} (h0 : (x0 = x1)) (h1 : (((-(1 : Int)) ≤ x0) ∧ (x0 ≤ (512 : Int)))) : (((-(1 : Int)) ≤ x1) ∧ (x1 ≤ (512 : Int))) := by omega
theorem q_2650 {x0 x1 : Int} (h0 : (x0 < (3 : Int))) : ((x0 < (3 : Int)) ∨ ((x1 + (1 : Int)) = (0 : Int))) := by omega
theorem q_2651 {x0 : Int} (h0 : (((0 : Int) ≤ x0) ∧ (x0 ≤ (8 : Int)))) (h1 : (((0 : Int) ≤ x0) ∧ (x0 ≤ (100000000 : Int)))) : (((0 : Int) ≤ x0) ∧ (x0 ≤ (700 : Int))) := by omega
theorem q_2652 {x0 : Int} (h0 : (((5 : Int) ≤ x0) ∧ (x0 ≤ (9 : Int)))) : (((-(1 : Int)) ≤ x0) ∧ (x0 ≤ (9 : Int))) := by omega
theorem q_2653 {x0 x1 : Int} (h0 : ((x0 ≤ x1) ∧ (((0 : Int) ≤ x0) ∧ (x1 ≤ (52 : Int))))) : ((0 : Int) ≤ x1) := by omega
theorem q_2654 {x0 : Int} (h0 : (((0 : Int) ≤ x0) ∧ (x0 ≤ (8 : Int)))) (h1 : (((0 : Int) ≤ x0) ∧ (x0 ≤ (100000000 : Int)))) : (((0 : Int) ≤ x0) ∧ (x0 ≤ (1000000 : Int))) := by omega
theorem q_2655 {x0 x1 x2 x3 : Int} (h0 : ((x0 ≤ x1) ∧ (((0 : Int) ≤ x0) ∧ (x1 ≤ (52 : Int))))) (h1 : (((0 : Int) ≤ x2) ∧ (x2 ≤ (8 : Int)))) (h2 : ((x2 ≤ x3) ∧ (x3 ≤ ((x2 + (11 : Int)) + ((12 : Int) * (x1 + (1 : Int))))))) (h3 : (((0 : Int) ≤ x3) ∧ (x3 ≤ (100000000 : Int)))) : (((0 : Int) ≤ x3) ∧ (x3 ≤ (700 : Int))) := by omega
theorem q_2656 {x0 : Int} (h0 : (((5 : Int) ≤ x0) ∧ (x0 ≤ (6 : Int)))) : (((-(1 : Int)) ≤ x0) ∧ (x0 ≤ (9 : Int))) := by omega
theorem q_2657 {x0 : Int} (h0 : (x0 = (0 : Int))) (h1 : (((0 : Int) ≤ x0) ∧ (x0 ≤ (100000000 : Int)))) : (((0 : Int) ≤ x0) ∧ (x0 ≤ (8 : Int))) := by omega
theorem q_2671 {x0 : Int} (h0 : (((1 : Int) ≤ x0) ∧ (x0 ≤ (3 : Int)))) : (((0 : Int) ≤ x0) ∧ (x0 ≤ (8 : Int))) := by omega
theorem q_2672 {x0 x1 x2 x3 x4 x5 x6 : Int} (h0 : ((1 : Int) ≤ x0)) (h1 : (((0 : Int) ≤ x0) ∧ (x0 ≤ (x1 + (1 : Int))))) (h2 : (x2 = (x3 + x0))) (h3 : ((x4 ≤ x5) ∧ (x5 ≤ (x4 + (300 : Int))))) (h4 : (((1 : Int) ≤ x6) ∧ (x6 ≤ (3 : Int)))) (h5 : (x3 = (x5 + x6))) (h6 : (((0 : Int) ≤ x1) ∧ (x1 ≤ (16385 : Int)))) : ((x4 ≤ x2) ∧ (x2 ≤ (x4 + (70000 : Int)))) := by omega
theorem q_2673 {x0 x1 : Int} (h0 : (x0 < (1 : Int))) (h1 : (((0 : Int) ≤ x0) ∧ (x0 ≤ (x1 + (1 : Int))))) : (((0 : Int) ≤ x0) ∧ (x0 < ((16385 : Nat) : Int))) := by omega
theorem q_2674 {x0 x1 x2 : Int} (h0 : (x0 ≠ (0 : Int))) (h1 : (x1 < (1 : Int))) : (((x0 = (0 : Int)) ∧ ((x1 + (1 : Int)) ≤ x2)) ∨ ((x0 ≠ (0 : Int)) ∧ ((x1 + (1 : Int)) ≤ (1 : Int)))) := by omega
theorem q_2675 {x0 x1 : Int} (h0 : (x0 < (1 : Int))) (h1 : (((0 : Int) ≤ x0) ∧ (x0 ≤ (x1 + (1 : Int))))) (h2 : (((0 : Int) ≤ x1) ∧ (x1 ≤ (16385 : Int)))) : (((0 : Int) ≤ (x0 + (1 : Int))) ∧ ((x0 + (1 : Int)) ≤ (x1 + (1 : Int)))) := by omega
theorem q_2676 {x0 x1 : Int} (h0 : (x0 < (1 : Int))) (h1 : (((0 : Int) ≤ x0) ∧ (x0 ≤ (x1 + (1 : Int))))) : (inr (x0 + (1 : Int))) := by omega
theorem q_2677 {x0 x1 x2 x3 x4 x5 x6 : Int} (h0 : (((0 : Int) ≤ x0) ∧ (x0 ≤ (x1 + (1 : Int))))) (h1 : (x2 = (x3 + x0))) (h2 : ((x4 ≤ x5) ∧ (x5 ≤ (x4 + (300 : Int))))) (h3 : (((1 : Int) ≤ x6) ∧ (x6 ≤ (3 : Int)))) (h4 : (x3 = (x5 + x6))) (h5 : (((0 : Int) ≤ x1) ∧ (x1 ≤ (16385 : Int)))) : ((x4 ≤ x2) ∧ (x2 ≤ (x4 + (70000 : Int)))) := by omega
theorem q_2678 {x0 x1 : Int} (h0 : (x0 < x1)) (h1 : (((0 : Int) ≤ x0) ∧ (x0 ≤ (x1 + (1 : Int))))) (h2 : (((0 : Int) ≤ x1) ∧ (x1 ≤ (16385 : Int)))) : (((0 : Int) ≤ x0) ∧ (x0 < ((16385 : Nat) : Int))) := by omega
theorem q_2679 {x0 x1 x2 : Int} (h0 : (x0 < x1)) (h1 : (x2 = (0 : Int))) : (((x2 = (0 : Int)) ∧ ((x0 + (1 : Int)) ≤ x1)) ∨ ((x2 ≠ (0 : Int)) ∧ ((x0 + (1 : Int)) ≤ (1 : Int)))) := by omega
theorem q_2680 {x0 x1 : Int} (h0 : (x0 < x1)) (h1 : (((0 : Int) ≤ x0) ∧ (x0 ≤ (x1 + (1 : Int))))) : (((0 : Int) ≤ (x0 + (1 : Int))) ∧ ((x0 + (1 : Int)) ≤ (x1 + (1 : Int)))) := by omega
theorem q_2681 {x0 x1 : Int} (h0 : (x0 < x1)) (h1 : (((0 : Int) ≤ x0) ∧ (x0 ≤ (x1 + (1 : Int))))) (h2 : (((0 : Int) ≤ x1) ∧ (x1 ≤ (16385 : Int)))) : (inr (x0 + (1 : Int))) := by omega
theorem q_2682 {x0 x1 : Int} (h0 : (x0 < x1)) : ((0 : Int) < ((x1 + (2 : Int)) - x0)) := by omega
theorem q_2683 {x0 x1 : Int} (h0 : (((1 : Int) ≤ x0) ∧ (x0 ≤ (3 : Int)))) (h1 : (((0 : Int) ≤ x1) ∧ (x1 ≤ (16385 : Int)))) : (((0 : Int) ≤ (x0 + x1)) ∧ ((x0 + x1) ≤ (20000 : Int))) := by omega
theorem q_2684 {x0 x1 : Int} (h0 : (((1 : Int) ≤ x0) ∧ (x0 ≤ (3 : Int)))) (h1 : (((0 : Int) ≤ x1) ∧ (x1 ≤ (16385 : Int)))) : (inr (x0 + x1)) := by omega
theorem q_2685 {x0 : Int} (h0 : (((1 : Int) ≤ x0) ∧ (x0 ≤ (3 : Int)))) : (inr (x0 + (1 : Int))) := by omega
theorem q_2686 {x0 x1 : Int} (h0 : ((x0 + x1) ≤ (x0 + (1 : Int)))) (h1 : (((1 : Int) ≤ x0) ∧ (x0 ≤ (3 : Int)))) (h2 : (((0 : Int) ≤ x1) ∧ (x1 ≤ (16385 : Int)))) : (((0 : Int) ≤ (x0 + x1)) ∧ ((x0 + x1) ≤ (20000 : Int))) := by omega
theorem q_2687 {x0 x1 : Int} (h0 : ((x0 + x1) ≤ (x0 + (1 : Int)))) (h1 : (((1 : Int) ≤ x0) ∧ (x0 ≤ (3 : Int)))) (h2 : (((0 : Int) ≤ x1) ∧ (x1 ≤ (16385 : Int)))) : (inr (x0 + x1)) := by omega
theorem q_2688 {x0 : Int} (h0 : (((1 : Int) ≤ x0) ∧ (x0 ≤ (3 : Int)))) : (((0 : Int) ≤ (x0 + (1 : Int))) ∧ ((x0 + (1 : Int)) ≤ (20000 : Int))) := by omega
theorem q_2689 : (((1 : Int) ≤ (3 : Int)) ∧ ((3 : Int) ≤ (3 : Int))) := by omega
theorem q_2690 : (((1 : Int) ≤ (2 : Int)) ∧ ((2 : Int) ≤ (3 : Int))) := by omega
theorem q_2691 : (((1 : Int) ≤ (1 : Int)) ∧ ((1 : Int) ≤ (3 : Int))) := by omega
theorem q_2692 {x0 : Int} : ((x0 ≠ (1 : Int)) ∨ ((5 : Int) ≤ (9 : Int))) := by omega
theorem q_2693 {x0 : Int} (h0 : (x0 ≤ (9 : Int))) (h1 : (((5 : Int) ≤ x0) ∧ (x0 ≤ (10 : Int)))) : (((0 : Int) ≤ x0) ∧ (x0 ≤ (31 : Int))) := by omega
theorem q_2694 {x0 : Int} (h0 : (x0 ≤ (9 : Int))) (h1 : (((5 : Int) ≤ x0) ∧ (x0 ≤ (10 : Int)))) : (((5 : Int) ≤ x0) ∧ (x0 ≤ (9 : Int))) := by omega
theorem q_2695 {x0 x1 : Int} (h0 : (x0 ≠ (1 : Int))) : ((x0 ≠ (1 : Int)) ∨ ((x1 + (1 : Int)) ≤ (9 : Int))) := by omega
theorem q_2696 {x0 : Int} (h0 : (x0 ≤ (9 : Int))) (h1 : (((5 : Int) ≤ x0) ∧ (x0 ≤ (10 : Int)))) : (((5 : Int) ≤ (x0 + (1 : Int))) ∧ ((x0 + (1 : Int)) ≤ (10 : Int))) := by omega
theorem q_2697 {x0 : Int} (h0 : (x0 ≤ (9 : Int))) (h1 : (((5 : Int) ≤ x0) ∧ (x0 ≤ (10 : Int)))) : (inr (x0 + (1 : Int))) := by omega
theorem q_2698 {x0 : Int} (h0 : (x0 ≤ (9 : Int))) : ((0 : Int) < ((12 : Int) - x0)) := by omega
theorem q_2699 {x0 : Int} (h0 : (x0 ≤ (8 : Int))) (h1 : (((5 : Int) ≤ x0) ∧ (x0 ≤ (10 : Int)))) : (((0 : Int) ≤ x0) ∧ (x0 ≤ (31 : Int))) := by omega
theorem q_2700 {x0 : Int} (h0 : (x0 ≤ (8 : Int))) (h1 : (((5 : Int) ≤ x0) ∧ (x0 ≤ (10 : Int)))) : (((5 : Int) ≤ x0) ∧ (x0 ≤ (9 : Int))) := by omega
theorem q_2701 {x0 x1 : Int} (h0 : (x0 ≤ (8 : Int))) : ((x1 ≠ (1 : Int)) ∨ ((x0 + (1 : Int)) ≤ (9 : Int))) := by omega
theorem q_2702 {x0 : Int} (h0 : (x0 ≤ (8 : Int))) (h1 : (((5 : Int) ≤ x0) ∧ (x0 ≤ (10 : Int)))) : (((5 : Int) ≤ (x0 + (1 : Int))) ∧ ((x0 + (1 : Int)) ≤ (10 : Int))) := by omega
theorem q_2703 {x0 : Int} (h0 : (x0 ≤ (8 : Int))) (h1 : (((5 : Int) ≤ x0) ∧ (x0 ≤ (10 : Int)))) : (inr (x0 + (1 : Int))) := by omega
theorem q_2704 {x0 : Int} (h0 : (x0 ≤ (8 : Int))) : ((0 : Int) < ((12 : Int) - x0)) := by omega
theorem q_2705 {x0 x1 : Int} (h0 : ((x0 = x1) ∧ (((0 : Int) ≤ x1) ∧ (x1 < (64 : Int))))) : (((0 : Int) ≤ x1) ∧ (x1 < (64 : Int))) := by omega
theorem q_2706 {x0 x1 : Int} (h0 : ((x0 = x1) ∧ (((0 : Int) ≤ x1) ∧ (x1 < (64 : Int))))) : (inr x1) := by omega
theorem q_2707 {x0 : Int} (h0 : (x0 < (64 : Int))) (h1 : (inr x0)) : (inr (x0 + (1 : Int))) := by omega
theorem q_2708 {x0 x1 x2 x3 : Int} (h0 : (x0 < (64 : Int))) (h1 : (x0 = x1)) (h2 : (((0 : Int) ≤ x2) ∧ (x2 ≤ (2 : Int)))) (h3 : ((x3 = x1) ∧ (((0 : Int) ≤ x1) ∧ (x1 < (64 : Int))))) : (((0 : Int) ≤ (((64 : Int) * x2) + x0)) ∧ ((((64 : Int) * x2) + x0) < ((192 : Nat) : Int))) := by omega
theorem q_2709 {x0 x1 x2 : Int} (h0 : (x0 = x1)) (h1 : ((x2 = x1) ∧ (((0 : Int) ≤ x1) ∧ (x1 < (64 : Int))))) : ((0 : Int) ≤ (x0 + (1 : Int))) := by omega
theorem q_2710 {x0 x1 : Int} (h0 : (x0 = (x1 + (8 : Int)))) (h1 : (x1 = (0 : Int))) (h2 : (((0 : Int) ≤ x0) ∧ (x0 ≤ (100000000 : Int)))) : (((0 : Int) ≤ x0) ∧ (x0 ≤ (8 : Int))) := by omega
theorem q_2711 {x0 x1 x2 x3 x4 : Int} (h0 : ((((0 : Int) ≤ x0) ∧ (x0 ≤ (2 : Int))) ∧ ((x1 ≤ x2) ∧ ((x0 = (2 : Int)) → (x3 ≤ x2))))) : ((x0 ≠ (3 : Int)) ∨ (((0 : Int) ≤ x4) ∧ (x4 ≤ x2))) := by omega
theorem q_2712 {x0 x1 x2 x3 : Int} (h0 : ((((0 : Int) ≤ x0) ∧ (x0 ≤ (2 : Int))) ∧ ((x1 ≤ x2) ∧ ((x0 = (2 : Int)) → (x3 ≤ x2))))) : (((0 : Int) ≤ x0) ∧ (x0 ≤ (3 : Int))) := by omega
theorem q_2713 {x0 x1 : Int} : (((3 : Int) ≠ (2 : Int)) ∨ (x0 ≤ x1)) := by omega
theorem q_2714 {x0 x1 x2 x3 x4 : Int} (h0 : (x0 < (0 : Int))) (h1 : (inr x1)) (h2 : (((x0 = (0 : Int)) ∨ (x0 = (1 : Int))) ∧ (x1 ≤ x2))) (h3 : (((0 : Int) ≤ x3) ∧ (x3 ≤ (80000 : Int)))) : ((((0 : Int) ≤ (2 : Int)) ∧ ((2 : Int) ≤ (2 : Int))) ∧ ((x3 ≤ x2) ∧ (((2 : Int) = (2 : Int)) → (x4 ≤ x2)))) := by omega
theorem q_2715 {x0 x1 x2 x3 : Int} (h0 : ((0 : Int) ≤ x0)) (h1 : (((x0 = (0 : Int)) ∨ (x0 = (1 : Int))) ∧ (x1 ≤ x2))) : ((((0 : Int) ≤ x0) ∧ (x0 ≤ (2 : Int))) ∧ ((x1 ≤ x2) ∧ ((x0 = (2 : Int)) → (x3 ≤ x2)))) := by omega
theorem q_2716 {x0 x1 x2 : Int} (h0 : ((x0 = (0 : Int)) ∧ (x1 = x2))) : (((x0 = (0 : Int)) ∨ (x0 = (1 : Int))) ∧ (x1 ≤ x2)) := by omega
theorem q_2717 {x0 x1 x2 : Int} (h0 : (x0 < (0 : Int))) (h1 : (inr x1)) (h2 : ((x0 = (0 : Int)) ∧ (x1 = x2))) : ((((1 : Int) = (0 : Int)) ∨ ((1 : Int) = (1 : Int))) ∧ ((8 : Int) ≤ x2)) := by omega
theorem q_2718 {x0 x1 x2 : Int} (h0 : ((8 : Int) < x0)) (h1 : ((x1 = (0 : Int)) ∧ (x0 = x2))) : ((((1 : Int) = (0 : Int)) ∨ ((1 : Int) = (1 : Int))) ∧ ((8 : Int) ≤ x2)) := by omega
theorem q_2719 {x0 : Int} (h0 : (x0 = (0 : Int))) (h1 : (((0 : Int) ≤ x0) ∧ (x0 ≤ (100000000 : Int)))) : (((0 : Int) ≤ x0) ∧ (x0 ≤ (70000000 : Int))) := by omega
theorem q_2720 {x0 : Int} (h0 : ((1 : Int) ≤ x0)) (h1 : (((0 : Int) ≤ x0) ∧ (x0 ≤ (8001 : Int)))) : (((0 : Int) ≤ (x0 - (1 : Int))) ∧ ((x0 - (1 : Int)) ≤ (8000 : Int))) := by omega
theorem q_2721 {x0 : Int} (h0 : (((0 : Int) ≤ x0) ∧ (x0 ≤ (8001 : Int)))) : (inr (x0 - (1 : Int))) := by omega
theorem q_2722 {x0 x1 : Int} (h0 : (x0 = x1)) (h1 : ((0 : Int) ≤ x0)) (h2 : (((-(1 : Int)) ≤ x1) ∧ (x1 ≤ (9 : Int)))) : (((0 : Int) ≤ x1) ∧ (x1 ≤ (31 : Int))) := by omega
theorem q_2723 {x0 x1 x2 : Int} (h0 : ((0 : Int) ≤ x0)) (h1 : (((-(1 : Int)) ≤ x0) ∧ (x0 ≤ (x1 - (2 : Int))))) (h2 : (((0 : Int) ≤ x2) ∧ (x2 ≤ ((200 : Int) * (x1 - x0))))) (h3 : (((0 : Int) ≤ x1) ∧ (x1 ≤ (8001 : Int)))) : (((0 : Int) ≤ x0) ∧ (x0 ≤ (8000 : Int))) := by omega
theorem q_2724 {x0 x1 x2 : Int} (h0 : ((0 : Int) ≤ x0)) (h1 : (((-(1 : Int)) ≤ x0) ∧ (x0 ≤ (x1 - (2 : Int))))) (h2 : (((0 : Int) ≤ x2) ∧ (x2 ≤ ((200 : Int) * (x1 - x0))))) : (((-(1 : Int)) ≤ (x0 + (-(1 : Int)))) ∧ ((x0 + (-(1 : Int))) ≤ (x1 - (2 : Int)))) := by omega
theorem q_2725 {x0 x1 x2 : Int} (h0 : (((-(1 : Int)) ≤ x0) ∧ (x0 ≤ (x1 - (2 : Int))))) (h1 : (((0 : Int) ≤ x2) ∧ (x2 ≤ ((200 : Int) * (x1 - x0))))) (h2 : (((0 : Int) ≤ x1) ∧ (x1 ≤ (8001 : Int)))) : (inr x0) := by omega
theorem q_2726 {x0 : Int} (h0 : (x0 ≤ (181000 : Int))) (h1 : (((0 : Int) ≤ x0) ∧ (x0 ≤ (100000000 : Int)))) : (((0 : Int) ≤ x0) ∧ (x0 ≤ (90000000 : Int))) := by omega
theorem q_2727 {x0 x1 x2 : Int} (h0 : (x0 ≤ (181000 : Int))) (h1 : (x1 = (x0 + x2))) (h2 : (((-(1 : Int)) ≤ x2) ∧ (x2 ≤ (9 : Int)))) (h3 : (((0 : Int) ≤ x1) ∧ (x1 ≤ (100000000 : Int)))) : (((0 : Int) ≤ x1) ∧ (x1 ≤ (90000000 : Int))) := by omega
theorem q_2728 {x0 x1 x2 x3 x4 : Int} (h0 : (x0 ≤ (181000 : Int))) (h1 : (x1 = (x0 + x2))) (h2 : (x3 = (x1 + x4))) (h3 : (((-(1 : Int)) ≤ x2) ∧ (x2 ≤ (9 : Int)))) (h4 : (((-(1 : Int)) ≤ x4) ∧ (x4 ≤ (9 : Int)))) (h5 : (((0 : Int) ≤ x3) ∧ (x3 ≤ (100000000 : Int)))) : (((0 : Int) ≤ x3) ∧ (x3 ≤ (90000000 : Int))) := by omega
theorem q_2729 {x0 x1 x2 x3 x4 x5 x6 : Int} (h0 : (x0 ≤ (181000 : Int))) (h1 : (x1 = (x0 + x2))) (h2 : (x3 = (x1 + x4))) (h3 : (x5 = (x3 + x6))) (h4 : (((-(1 : Int)) ≤ x2) ∧ (x2 ≤ (9 : Int)))) (h5 : (((-(1 : Int)) ≤ x4) ∧ (x4 ≤ (9 : Int)))) (h6 : (((-(1 : Int)) ≤ x6) ∧ (x6 ≤ (9 : Int)))) (h7 : (((0 : Int) ≤ x5) ∧ (x5 ≤ (100000000 : Int)))) : (((0 : Int) ≤ x5) ∧ (x5 ≤ (90000000 : Int))) := by omega
theorem q_2730 {x0 : Int} (h0 : (x0 ≤ (181000 : Int))) (h1 : (((0 : Int) ≤ x0) ∧ (x0 ≤ (100000000 : Int)))) : (((0 : Int) ≤ x0) ∧ (x0 ≤ (70000000 : Int))) := by omega
theorem q_2731 {x0 x1 x2 : Int} (h0 : ((0 : Int) ≤ x0)) (h1 : (((0 : Int) ≤ x1) ∧ (x1 ≤ ((200 : Int) * (x2 - x0))))) (h2 : (((0 : Int) ≤ x2) ∧ (x2 ≤ (8001 : Int)))) : (inr x0) := by omega
theorem q_2732 {x0 x1 x2 : Int} (h0 : ((0 : Int) ≤ x0)) (h1 : (((0 : Int) ≤ x1) ∧ (x1 ≤ ((200 : Int) * (x2 - x0))))) (h2 : (((0 : Int) ≤ x2) ∧ (x2 ≤ (8001 : Int)))) : (inr (x0 + (-(1 : Int)))) := by omega
theorem q_2733 {x0 : Int} (h0 : (((0 : Int) ≤ x0) ∧ (x0 ≤ (8001 : Int)))) : (x0 ≤ (8001 : Int)) := by omega
theorem q_2734 {x0 : Int} (h0 : (x0 ≤ (8001 : Int))) (h1 : (((0 : Int) ≤ x0) ∧ (x0 ≤ (8001 : Int)))) : (inr x0) := by omega
theorem q_2735 : ((((0 : Int) = (0 : Int)) ∧ ((0 : Int) = (0 : Int))) ∨ ((((0 : Int) = (1 : Int)) ∧ ((((0 : Int) % (64 : Int)) = (0 : Int)) ∧ ((0 : Int) ≤ (192 : Int)))) ∨ ((((0 : Int) = (2 : Int)) ∧ ((((0 : Int) % (16 : Int)) = (0 : Int)) ∧ ((0 : Int) ≤ (240 : Int)))) ∨ ((0 : Int) = (3 : Int))))) := by omega
theorem q_2736 : (((0 : Int) ≤ (0 : Int)) ∧ ((0 : Int) ≤ (252 : Int))) := by omega
theorem q_2737 {x0 x1 x2 : Int} (h0 : ((x0 ≤ x1) ∧ (x1 ≤ (x0 + (3 : Int))))) (h1 : (x2 = (x1 + (1 : Int)))) : ((x0 ≤ x2) ∧ (x2 ≤ (x0 + ((4 : Int) + ((100 : Int) * (0 : Int)))))) := by omega
theorem q_2738 {x0 : Int} (h0 : (((0 : Int) ≤ x0) ∧ (x0 ≤ (252 : Int)))) : (((0 : Int) ≤ x0) ∧ (x0 ≤ (255 : Int))) := by omega
theorem q_2739 {x0 : Int} (h0 : (((0 : Int) ≤ x0) ∧ (x0 ≤ (700 : Int)))) (h1 : (((0 : Int) ≤ x0) ∧ (x0 ≤ (100000000 : Int)))) : (((0 : Int) ≤ x0) ∧ (x0 ≤ (192000 : Int))) := by omega
theorem q_2740 {x0 : Int} (h0 : ((x0 = (0 : Int)) ∨ ((x0 = (1 : Int)) ∨ ((x0 = (2 : Int)) ∨ (x0 = (3 : Int)))))) : (((0 : Int) ≤ ((8 : Int) + x0)) ∧ (((8 : Int) + x0) < ((12 : Nat) : Int))) := by omega
theorem q_2741 {x0 x1 x2 : Int} (h0 : ((x0 ≤ x1) ∧ (x1 ≤ (x0 + ((4 : Int) + ((100 : Int) * x2)))))) : ((0 : Int) ≤ (x2 + (1 : Int))) := by omega
theorem q_2742 {x0 x1 x2 : Int} (h0 : (x0 < (3 : Int))) (h1 : ((x1 ≤ x2) ∧ (x2 ≤ (x1 + ((4 : Int) + ((100 : Int) * x0)))))) : (inr (x0 + (1 : Int))) := by omega
theorem q_2743 {x0 x1 : Int} (h0 : ((x0 ≤ x1) ∧ (x1 ≤ (x0 + (3 : Int))))) : ((x0 ≤ x1) ∧ (x1 ≤ (x0 + (30000 : Int)))) := by omega
theorem q_2744 : (inr (32512 : Int)) := by omega
theorem q_2745 {x0 : Int} (h0 : ((128 : Int) ≤ x0)) (h1 : (x0 ≤ (8001 : Int))) : (inr x0) := by omega
theorem q_2746 {x0 : Int} (h0 : ((32512 : Int) ≤ x0)) (h1 : (x0 ≤ (8001 : Int))) : (inr (x0 - (32512 : Int))) := by omega
theorem q_2747 {x0 x1 : Int} (h0 : (((0 : Int) ≤ x0) ∧ (x0 ≤ (70000000 : Int)))) (h1 : (x1 = (x0 + (1 : Int)))) (h2 : (((0 : Int) ≤ x1) ∧ (x1 ≤ (100000000 : Int)))) : (((0 : Int) ≤ x1) ∧ (x1 ≤ (90000000 : Int))) := by omega
theorem q_2748 : (((0 : Int) ≤ (2 : Int)) ∧ ((2 : Int) ≤ (8 : Int))) := by omega
theorem q_2749 {x0 : Int} (h0 : ((32512 : Int) ≤ x0)) (h1 : (x0 ≤ (8001 : Int))) : (inrJ (x0 - (32512 : Int))) := by omega
theorem q_2750 {x0 : Int} (h0 : ((128 : Int) ≤ x0)) (h1 : (x0 < (32512 : Int))) (h2 : (((0 : Int) ≤ x0) ∧ (x0 ≤ (8001 : Int)))) : ((inr x0) ∧ ((0 : Int) ≤ x0)) := by omega
theorem q_2751 {x0 : Int} (h0 : ((128 : Int) ≤ x0)) (h1 : (x0 < (32512 : Int))) : (inr ((128 : Int) + (x0 / (256 : Int)))) := by omega
theorem q_2752 {x0 : Int} (h0 : (x0 < (128 : Int))) (h1 : (((0 : Int) ≤ x0) ∧ (x0 ≤ (8001 : Int)))) : (inr x0) := by omega
theorem q_2753 {x0 x1 : Int} (h0 : (x0 = (x1 + (1 : Int)))) : ((x1 ≤ x0) ∧ (x0 ≤ (x1 + (3 : Int)))) := by omega
theorem q_2754 {x0 x1 : Int} (h0 : (((0 : Int) ≤ x0) ∧ ((x0 ≤ (20000000 : Int)) ∧ (((0 : Int) ≤ x1) ∧ (x1 ≤ (3 : Int)))))) : (inr ((((8 : Int) * x0) + ((2 : Int) * x1)) + (0 : Int))) := by omega
theorem q_2755 {x0 x1 : Int} (h0 : (((0 : Int) ≤ x0) ∧ ((x0 ≤ (20000000 : Int)) ∧ (((0 : Int) ≤ x1) ∧ (x1 ≤ (3 : Int)))))) : (inrJ ((((8 : Int) * x0) + ((2 : Int) * x1)) + (0 : Int))) := by omega
theorem q_2756 {x0 x1 x2 : Int} (h0 : (x0 ≤ x1)) (h1 : (x1 = (x2 + (3 : Int)))) : (((x0 ≤ (x2 + (3 : Int))) ∧ (x1 = (x2 + (3 : Int)))) ∨ (((x2 + (3 : Int)) ≤ x0) ∧ (x1 = x0))) := by omega
theorem q_2757 {x0 x1 x2 : Int} (h0 : (x0 < x1)) (h1 : (x0 = (x2 + (3 : Int)))) : (((x1 ≤ (x2 + (3 : Int))) ∧ (x1 = (x2 + (3 : Int)))) ∨ (((x2 + (3 : Int)) ≤ x1) ∧ (x1 = x1))) := by omega
theorem q_2758 {x0 x1 : Int} (h0 : (((0 : Int) ≤ x0) ∧ ((x0 ≤ (20000000 : Int)) ∧ (((0 : Int) ≤ x1) ∧ (x1 ≤ (3 : Int)))))) : (inr ((((8 : Int) * x0) + ((2 : Int) * x1)) + (1 : Int))) := by omega
theorem q_2759 {x0 x1 : Int} (h0 : (((0 : Int) ≤ x0) ∧ ((x0 ≤ (20000000 : Int)) ∧ (((0 : Int) ≤ x1) ∧ (x1 ≤ (3 : Int)))))) : (inrJ ((((8 : Int) * x0) + ((2 : Int) * x1)) + (1 : Int))) := by omega
theorem q_2760 {x0 x1 x2 : Int} (h0 : (((0 : Int) ≤ x0) ∧ ((x0 ≤ x1) ∧ (x1 ≤ x2)))) : ((x0 ≤ x0) ∧ (x0 ≤ x1)) := by omega
theorem q_2761 {x0 : Int} (h0 : (((0 : Int) ≤ x0) ∧ (x0 ≤ (40000000 : Int)))) (h1 : (((0 : Int) ≤ x0) ∧ (x0 ≤ (100000000 : Int)))) : (((0 : Int) ≤ x0) ∧ (x0 ≤ (90000000 : Int))) := by omega
theorem q_2762 {x0 x1 x2 : Int} (h0 : (x0 ≤ x1)) (h1 : ((x1 ≤ (0 : Int)) ∨ (x1 ≤ x0))) (h2 : (x2 = x1)) (h3 : (((0 : Int) ≤ x0) ∧ (x0 ≤ (65536 : Int)))) : (x2 = (x0 + (0 : Int))) := by omega
theorem q_2763 : (((8 : Int) ≤ (8 : Int)) ∧ ((8 : Int) ≤ (12 : Int))) := by omega
theorem q_2764 : (((8 : Int) ≤ (8 : Int)) ∨ ((8 : Int) ≤ (12 : Int))) := by omega
theorem q_2765 : ((8 : Int) ≤ (8 : Int)) := by omega
theorem q_2766 {x0 : Int} (h0 : ((3 : Int) ≤ x0)) (h1 : (((0 : Int) ≤ x0) ∧ (x0 ≤ (8 : Int)))) : (((3 : Int) ≤ x0) ∧ (x0 ≤ (8 : Int))) := by omega
theorem q_2767 {x0 x1 x2 x3 x4 x5 : Int} (h0 : (x0 ≤ x1)) (h1 : (((0 : Int) ≤ x2) ∧ ((x2 ≤ x0) ∧ (x0 ≤ x3)))) (h2 : (x4 = (x5 + x1))) (h3 : (((0 : Int) ≤ x5) ∧ (x5 ≤ (65536 : Int)))) : (((0 : Int) ≤ (x5 + x2)) ∧ ((x5 + x2) ≤ x4)) := by omega
theorem q_2768 {x0 x1 x2 x3 : Int} (h0 : (((0 : Int) ≤ x0) ∧ ((x0 ≤ x1) ∧ (x1 ≤ x2)))) (h1 : (((0 : Int) ≤ x3) ∧ ((x3 + x2) ≤ (16384 : Int)))) (h2 : (((0 : Int) ≤ x3) ∧ (x3 ≤ (65536 : Int)))) : (inr (x3 + x0)) := by omega
theorem q_2769 {x0 x1 x2 : Int} (h0 : (inr x0)) (h1 : (((0 : Int) ≤ x1) ∧ ((x1 ≤ x0) ∧ (x0 ≤ x2)))) : (inr (x0 - x1)) := by omega
theorem q_2770 {x0 x1 : Int} (h0 : (((0 : Int) ≤ x0) ∧ (x0 ≤ (100000000 : Int)))) (h1 : (((0 : Int) ≤ x1) ∧ (x1 ≤ (100000000 : Int)))) : (inr ((x0 - x1) - (3 : Int))) := by omega
theorem q_2771 {x0 x1 x2 : Int} (h0 : ((x0 ≤ (8 : Int)) ∧ (((0 : Int) ≤ x1) ∧ ((x1 ≤ (3 : Int)) ∧ (((0 : Int) ≤ x2) ∧ (x2 ≤ (1 : Int))))))) : (((0 : Int) ≤ x2) ∧ (x2 ≤ (1 : Int))) := by omega
theorem q_2772 {x0 x1 x2 : Int} (h0 : (((0 : Int) ≤ x0) ∧ ((x0 ≤ x1) ∧ (x1 ≤ x2)))) (h1 : (((0 : Int) ≤ x2) ∧ (x2 ≤ (65536 : Int)))) : (((0 : Int) ≤ (x1 - x0)) ∧ (((x1 - x0) ≤ (20000000 : Int)) ∧ (((0 : Int) ≤ (0 : Int)) ∧ ((0 : Int) ≤ (3 : Int))))) := by omega
theorem q_2773 {x0 : Int} (h0 : (((0 : Int) ≤ x0) ∧ (x0 ≤ (40000000 : Int)))) (h1 : (((0 : Int) ≤ x0) ∧ (x0 ≤ (100000000 : Int)))) : (((0 : Int) ≤ x0) ∧ (x0 ≤ (80000000 : Int))) := by omega
theorem q_2774 {x0 x1 : Int} (h0 : ((x0 ≤ x1) ∧ (((x0 + (3 : Int)) ≤ x1) ∧ ((x1 = x0) ∨ (x1 = (x0 + (3 : Int))))))) (h1 : (((x0 ≤ (x0 + (3 : Int))) ∧ (x1 = (x0 + (3 : Int)))) ∨ (((x0 + (3 : Int)) ≤ x0) ∧ (x1 = x0)))) : (x1 = (x0 + (3 : Int))) := by omega
theorem q_2775 {x0 x1 x2 : Int} (h0 : (x0 = (x1 + (3 : Int)))) : (x0 = ((x1 + (3 : Int)) + (x2 - x2))) := by omega
theorem q_2776 : (((0 : Int) ≤ (0 : Int)) ∧ ((0 : Int) < ((12 : Nat) : Int))) := by omega
theorem q_2777 {x0 x1 x2 x3 x4 : Int} (h0 : ((x0 ≤ x1) ∧ (x1 ≤ x2))) (h1 : (x3 = ((x4 + (3 : Int)) + (x1 - x0)))) : ((x4 ≤ x3) ∧ (x3 ≤ ((x4 + (4 : Int)) + (x2 - x0)))) := by omega
theorem q_2778 {x0 x1 x2 x3 : Int} (h0 : (x0 < x1)) (h1 : (((0 : Int) ≤ x2) ∧ ((x2 ≤ x1) ∧ (x1 ≤ x3)))) (h2 : ((x2 ≤ x0) ∧ (x0 ≤ x1))) (h3 : (((0 : Int) ≤ x3) ∧ (x3 ≤ (65536 : Int)))) : (((0 : Int) ≤ x0) ∧ (x0 < ((65536 : Nat) : Int))) := by omega
theorem q_2779 {x0 x1 x2 x3 x4 : Int} (h0 : (x0 = ((x1 + (3 : Int)) + (x2 - x3)))) (h1 : (x4 = (x0 + (1 : Int)))) : (x4 = ((x1 + (3 : Int)) + ((x2 + (1 : Int)) - x3))) := by omega
theorem q_2780 {x0 x1 x2 x3 : Int} (h0 : (x0 < x1)) (h1 : (((0 : Int) ≤ x2) ∧ ((x2 ≤ x1) ∧ (x1 ≤ x3)))) (h2 : (inr x0)) (h3 : (((0 : Int) ≤ x3) ∧ (x3 ≤ (65536 : Int)))) : (inr (x0 + (1 : Int))) := by omega
theorem q_2781 {x0 : Int} (h0 : (x0 < (12 : Int))) (h1 : (((8 : Int) ≤ x0) ∧ (x0 ≤ (12 : Int)))) : (((0 : Int) ≤ x0) ∧ (x0 < ((12 : Nat) : Int))) := by omega
theorem q_2782 {x0 : Int} (h0 : (x0 < (12 : Int))) (h1 : (((8 : Int) ≤ x0) ∧ (x0 ≤ (12 : Int)))) : (((8 : Int) ≤ (x0 + (1 : Int))) ∧ ((x0 + (1 : Int)) ≤ (12 : Int))) := by omega
theorem q_2783 {x0 : Int} (h0 : (x0 < (12 : Int))) : (((x0 + (1 : Int)) ≤ (8 : Int)) ∨ ((x0 + (1 : Int)) ≤ (12 : Int))) := by omega
theorem q_2784 {x0 : Int} (h0 : (((8 : Int) ≤ x0) ∧ (x0 ≤ (12 : Int)))) : ((8 : Int) ≤ (x0 + (1 : Int))) := by omega
theorem q_2785 {x0 : Int} (h0 : (x0 < (12 : Int))) (h1 : (((8 : Int) ≤ x0) ∧ (x0 ≤ (12 : Int)))) : (inr (x0 + (1 : Int))) := by omega
theorem q_2786 {x0 : Int} (h0 : (x0 < (12 : Int))) : ((0 : Int) < ((12 : Int) - x0)) := by omega
theorem q_2787 {x0 x1 x2 x3 : Int} (h0 : (x0 = (x1 + (3 : Int)))) (h1 : ((x0 ≤ x2) ∧ (x2 ≤ (x0 + (70000 : Int))))) (h2 : ((x2 ≤ x3) ∧ (x3 ≤ (x2 + (30000 : Int))))) : (((0 : Int) ≤ ((x3 - x1) - (3 : Int))) ∧ ((((x3 - x1) - (3 : Int)) ≤ (20000000 : Int)) ∧ (((0 : Int) ≤ (2 : Int)) ∧ ((2 : Int) ≤ (3 : Int))))) := by omega
theorem q_2788 : (((0 : Int) ≤ (2 : Int)) ∧ ((2 : Int) < ((12 : Nat) : Int))) := by omega
theorem q_2789 : (((0 : Int) ≤ (3 : Int)) ∧ ((3 : Int) < ((12 : Nat) : Int))) := by omega
theorem q_2790 {x0 : Int} (h0 : (((0 : Int) ≤ x0) ∧ (x0 ≤ (3 : Int)))) : (((0 : Int) ≤ ((4 : Int) + x0)) ∧ (((4 : Int) + x0) < ((12 : Nat) : Int))) := by omega
theorem q_2791 {x0 x1 x2 x3 x4 x5 : Int} (h0 : (((x0 - x1) - (3 : Int)) < (x2 - x3))) (h1 : (((0 : Int) ≤ x3) ∧ ((x3 ≤ x2) ∧ (x2 ≤ x4)))) (h2 : ((x0 ≤ x5) ∧ (((x1 + (3 : Int)) ≤ x5) ∧ ((x5 = x0) ∨ (x5 = (x1 + (3 : Int))))))) (h3 : (((x0 ≤ (x1 + (3 : Int))) ∧ (x5 = (x1 + (3 : Int)))) ∨ (((x1 + (3 : Int)) ≤ x0) ∧ (x5 = x0)))) : ((x1 ≤ x5) ∧ (x5 ≤ ((x1 + (4 : Int)) + (x2 - x3)))) := by omega
theorem q_2792 {x0 x1 x2 : Int} (h0 : ((0 : Int) ≤ x0)) (h1 : (x1 = (x2 + x0))) (h2 : (((0 : Int) ≤ x1) ∧ (x1 ≤ (16384 : Int)))) (h3 : (((0 : Int) ≤ x2) ∧ (x2 ≤ (65536 : Int)))) : (((0 : Int) ≤ x0) ∧ (x0 < ((65536 : Nat) : Int))) := by omega
theorem q_2793 {x0 x1 x2 x3 x4 x5 : Int} (h0 : (x0 < x1)) (h1 : (((0 : Int) ≤ x2) ∧ ((x2 ≤ x1) ∧ (x1 ≤ x3)))) (h2 : (((0 : Int) ≤ x4) ∧ ((x4 + x3) ≤ (16384 : Int)))) (h3 : (x5 = (x4 + x0))) (h4 : (((0 : Int) ≤ x5) ∧ (x5 ≤ (16384 : Int)))) : (((0 : Int) ≤ x5) ∧ (x5 < ((16384 : Nat) : Int))) := by omega
theorem q_2794 {x0 x1 x2 x3 x4 x5 : Int} (h0 : (x0 < x1)) (h1 : (((0 : Int) ≤ x2) ∧ ((x2 ≤ x1) ∧ (x1 ≤ x3)))) (h2 : (((0 : Int) ≤ x4) ∧ ((x4 + x3) ≤ (16384 : Int)))) (h3 : (x5 = (x4 + x0))) (h4 : (((0 : Int) ≤ x5) ∧ (x5 ≤ (16384 : Int)))) : (((0 : Int) ≤ (x5 + (1 : Int))) ∧ ((x5 + (1 : Int)) ≤ (16384 : Int))) := by omega
theorem q_2795 {x0 x1 x2 : Int} (h0 : ((0 : Int) ≤ x0)) (h1 : (x1 = (x2 + x0))) (h2 : (((0 : Int) ≤ x1) ∧ (x1 ≤ (16384 : Int)))) (h3 : (((0 : Int) ≤ x2) ∧ (x2 ≤ (65536 : Int)))) : (inr (x0 + (1 : Int))) := by omega
theorem q_2796 {x0 x1 : Int} (h0 : ((0 : Int) ≤ x0)) (h1 : (x1 = x0)) (h2 : (((0 : Int) ≤ x1) ∧ (x1 ≤ (16384 : Int)))) : (((0 : Int) ≤ x0) ∧ (x0 < ((65536 : Nat) : Int))) := by omega
theorem q_2797 {x0 x1 x2 x3 : Int} (h0 : (x0 < x1)) (h1 : (((0 : Int) ≤ x1) ∧ ((x1 + x2) ≤ (16384 : Int)))) (h2 : (x3 = x0)) (h3 : (((0 : Int) ≤ x2) ∧ (x2 ≤ (65536 : Int)))) (h4 : (((0 : Int) ≤ x3) ∧ (x3 ≤ (16384 : Int)))) : (((0 : Int) ≤ x3) ∧ (x3 < ((16384 : Nat) : Int))) := by omega
theorem q_2798 {x0 x1 x2 x3 : Int} (h0 : (x0 < x1)) (h1 : (((0 : Int) ≤ x1) ∧ ((x1 + x2) ≤ (16384 : Int)))) (h2 : (x3 = x0)) (h3 : (((0 : Int) ≤ x2) ∧ (x2 ≤ (65536 : Int)))) (h4 : (((0 : Int) ≤ x3) ∧ (x3 ≤ (16384 : Int)))) : (((0 : Int) ≤ (x3 + (1 : Int))) ∧ ((x3 + (1 : Int)) ≤ (16384 : Int))) := by omega
theorem q_2799 {x0 x1 : Int} (h0 : (x0 = x1)) : ((x0 + (1 : Int)) = (x1 + (1 : Int))) := by omega
theorem q_2800 {x0 x1 : Int} (h0 : ((0 : Int) ≤ x0)) (h1 : (x1 = x0)) (h2 : (((0 : Int) ≤ x1) ∧ (x1 ≤ (16384 : Int)))) : (inr (x0 + (1 : Int))) := by omega
theorem q_2801 {x0 x1 x2 : Int} (h0 : (((0 : Int) ≤ x0) ∧ ((x0 ≤ x1) ∧ (x1 ≤ x2)))) (h1 : (((0 : Int) ≤ x2) ∧ (x2 ≤ (65536 : Int)))) : (((0 : Int) ≤ (x1 - x0)) ∧ (((x1 - x0) ≤ (20000000 : Int)) ∧ (((0 : Int) ≤ (1 : Int)) ∧ ((1 : Int) ≤ (3 : Int))))) := by omega
theorem q_2802 : (((0 : Int) ≤ (1 : Int)) ∧ ((1 : Int) < ((12 : Nat) : Int))) := by omega
theorem q_2803 {x0 x1 x2 x3 x4 x5 : Int} (h0 : (((0 : Int) ≤ x0) ∧ ((x0 ≤ x1) ∧ (x1 ≤ x2)))) (h1 : (x3 = (x4 + (3 : Int)))) (h2 : (x5 = (x3 + (1 : Int)))) : ((x4 ≤ x5) ∧ (x5 ≤ ((x4 + (4 : Int)) + (x1 - x0)))) := by omega
theorem q_2804 {x0 x1 x2 : Int} (h0 : (x0 = (0 : Int))) : (((x0 = (1 : Int)) ∧ ((x1 = x2) ∧ ((0 : Int) = (1 : Int)))) ∨ (((x0 = (0 : Int)) ∨ (x1 ≠ x2)) ∧ ((0 : Int) = (0 : Int)))) := by omega
theorem q_2805 {x0 x1 : Int} (h0 : ((x0 - x1) ≤ (0 : Int))) : ((((0 : Int) < (x0 - x1)) ∧ ((0 : Int) = (1 : Int))) ∨ (((x0 - x1) ≤ (0 : Int)) ∧ ((0 : Int) = (0 : Int)))) := by omega
theorem q_2806 {x0 x1 : Int} (h0 : ((0 : Int) < (x0 - x1))) : ((((0 : Int) < (x0 - x1)) ∧ ((1 : Int) = (1 : Int))) ∨ (((x0 - x1) ≤ (0 : Int)) ∧ ((1 : Int) = (0 : Int)))) := by omega
theorem q_2813 : (((0 : Int) ≤ (0 : Int)) ∧ ((0 : Int) ≤ (12 : Int))) := by omega
theorem q_2814 : (((0 : Int) ≤ (0 : Int)) ∨ ((0 : Int) ≤ (12 : Int))) := by omega
theorem q_2815 : (((0 : Int) ≤ (0 : Int)) ∧ ((0 : Int) ≤ (90000000 : Int))) := by omega
theorem q_2816 : (inrJ (4247762216 : Int)) := by omega
theorem q_2817 {x0 : Int} (h0 : (x0 = ((0 : Int) + (4 : Int)))) (h1 : (((0 : Int) ≤ x0) ∧ (x0 ≤ (100000000 : Int)))) : (((0 : Int) ≤ x0) ∧ (x0 ≤ (99999999 : Int))) := by omega
theorem q_2818 {x0 x1 x2 x3 x4 x5 x6 x7 x8 : Int} (h0 : ((((((64 : Int) * x0) + x1) + x2) + x3) = (((((64 : Int) * x4) + ((32 : Int) * x5)) + ((4 : Int) * (x6 % (2 : Int)))) + x7))) (h1 : (((0 : Int) ≤ x0) ∧ (x0 ≤ (2 : Int)))) (h2 : (x0 = x4)) (h3 : (x8 = x5)) (h4 : ((x8 = (0 : Int)) ∨ (x8 = (1 : Int)))) (h5 : (((0 : Int) ≤ x3) ∧ (x3 ≤ (3 : Int)))) (h6 : (x3 = x7)) : (inr (((((64 : Int) * x0) + x1) + x2) + x3)) := by omega
theorem q_2819 {x0 : Int} (h0 : (((0 : Int) ≤ x0) ∧ (x0 ≤ (6 : Int)))) (h1 : (((0 : Int) ≤ x0) ∧ (x0 ≤ (100000000 : Int)))) : (((0 : Int) ≤ x0) ∧ (x0 ≤ (90000000 : Int))) := by omega
theorem q_2820 {x0 x1 : Int} (h0 : (((0 : Int) ≤ x0) ∧ (x0 ≤ (3 : Int)))) (h1 : (((x0 ≠ (3 : Int)) ∧ (x1 = x0)) ∨ ((x0 = (3 : Int)) ∧ (x1 = (4 : Int))))) : (((0 : Int) ≤ x1) ∧ (x1 ≤ (8 : Int))) := by omega
theorem q_2821 {x0 : Int} (h0 : (((0 : Int) ≤ x0) ∧ (x0 ≤ (16 : Int)))) : (((1 : Int) = (1 : Int)) → (x0 ≤ ((40 : Int) + ((5 : Int) * (0 : Int))))) := by omega
theorem q_2822 {x0 : Int} (h0 : (((0 : Int) ≤ x0) ∧ (x0 ≤ (16 : Int)))) (h1 : (((0 : Int) ≤ x0) ∧ (x0 ≤ (100000000 : Int)))) : (((0 : Int) ≤ x0) ∧ (x0 ≤ ((44 : Int) + ((5 : Int) * (0 : Int))))) := by omega
theorem q_2823 {x0 : Int} (h0 : (x0 < (12 : Int))) (h1 : (((0 : Int) ≤ x0) ∧ (x0 ≤ (12 : Int)))) : (((0 : Int) ≤ x0) ∧ (x0 < ((12 : Nat) : Int))) := by omega
theorem q_2824 {x0 : Int} (h0 : (x0 < (12 : Int))) (h1 : (((0 : Int) ≤ x0) ∧ (x0 ≤ (12 : Int)))) : (((0 : Int) ≤ (x0 + (1 : Int))) ∧ ((x0 + (1 : Int)) ≤ (12 : Int))) := by omega
theorem q_2825 {x0 : Int} (h0 : (x0 < (12 : Int))) (h1 : (((0 : Int) ≤ x0) ∧ (x0 ≤ (12 : Int)))) : (inr (x0 + (1 : Int))) := by omega
theorem q_2826 {x0 x1 x2 x3 : Int} (h0 : (((0 : Int) ≤ x0) ∧ ((x0 + x1) ≤ (16384 : Int)))) (h1 : (((0 : Int) ≤ x2) ∧ (x2 ≤ x1))) (h2 : (((0 : Int) ≤ x3) ∧ (x3 ≤ ((44 : Int) + ((5 : Int) * x2))))) (h3 : (((0 : Int) ≤ x1) ∧ (x1 ≤ (65536 : Int)))) (h4 : (((0 : Int) ≤ x3) ∧ (x3 ≤ (100000000 : Int)))) : (((0 : Int) ≤ x3) ∧ (x3 ≤ (90000 : Int))) := by omega
theorem q_2827 {x0 x1 x2 : Int} (h0 : (((0 : Int) ≤ x0) ∧ (x0 ≤ x1))) (h1 : (((0 : Int) ≤ x2) ∧ (x2 ≤ ((44 : Int) + ((5 : Int) * x0))))) (h2 : (((0 : Int) ≤ x1) ∧ (x1 ≤ (65536 : Int)))) (h3 : (((0 : Int) ≤ x2) ∧ (x2 ≤ (100000000 : Int)))) : (((0 : Int) ≤ x2) ∧ (x2 ≤ (90000000 : Int))) := by omega
theorem q_2828 {x0 x1 x2 x3 x4 : Int} (h0 : (((0 : Int) ≤ x0) ∧ ((x0 + x1) ≤ (16384 : Int)))) (h1 : (((0 : Int) ≤ x2) ∧ (x2 ≤ x1))) (h2 : (((0 : Int) ≤ x3) ∧ (x3 ≤ ((44 : Int) + ((5 : Int) * x2))))) (h3 : (x4 = (x3 + (4 : Int)))) (h4 : (((0 : Int) ≤ x1) ∧ (x1 ≤ (65536 : Int)))) (h5 : (((0 : Int) ≤ x4) ∧ (x4 ≤ (100000000 : Int)))) : (((0 : Int) ≤ x4) ∧ (x4 ≤ (90000 : Int))) := by omega
theorem q_2829 {x0 x1 : Int} (h0 : (((0 : Int) ≤ x0) ∧ (x0 ≤ (3 : Int)))) (h1 : (((0 : Int) ≤ x1) ∧ (x1 ≤ (8 : Int)))) : ((x1 ≤ (8 : Int)) ∧ (((0 : Int) ≤ x0) ∧ ((x0 ≤ (3 : Int)) ∧ (((0 : Int) ≤ (0 : Int)) ∧ ((0 : Int) ≤ (1 : Int)))))) := by omega
theorem q_2830 {x0 x1 x2 : Int} (h0 : (((0 : Int) ≤ x0) ∧ (x0 ≤ x1))) (h1 : (((0 : Int) ≤ x2) ∧ (x2 ≤ ((44 : Int) + ((5 : Int) * x0))))) (h2 : (((0 : Int) ≤ x1) ∧ (x1 ≤ (65536 : Int)))) (h3 : (((0 : Int) ≤ x2) ∧ (x2 ≤ (100000000 : Int)))) : (((0 : Int) ≤ x2) ∧ (x2 ≤ (40000000 : Int))) := by omega
theorem q_2831 {x0 x1 x2 x3 x4 : Int} (h0 : (((0 : Int) ≤ x0) ∧ (x0 ≤ x1))) (h1 : (((1 : Int) ≤ x2) ∧ (x2 ≤ (131072 : Int)))) (h2 : ((((x0 + x2) ≥ x1) ∧ (x3 = x1)) ∨ (((x0 + x2) < x1) ∧ (x3 = (x0 + x2))))) (h3 : (((x3 ≥ x1) ∧ (x4 = (0 : Int))) ∨ ((x3 < x1) ∧ (x4 = (1 : Int))))) : (((0 : Int) ≤ x0) ∧ ((x0 ≤ x3) ∧ (x3 ≤ x1))) := by omega
theorem q_2832 {x0 x1 x2 x3 x4 x5 : Int} (h0 : (((0 : Int) ≤ x0) ∧ (x0 ≤ x1))) (h1 : (((1 : Int) ≤ x2) ∧ (x2 ≤ (131072 : Int)))) (h2 : (((0 : Int) ≤ x3) ∧ (x3 ≤ ((44 : Int) + ((5 : Int) * x0))))) (h3 : ((((x0 + x2) ≥ x1) ∧ (x4 = x1)) ∨ (((x0 + x2) < x1) ∧ (x4 = (x0 + x2))))) (h4 : (((x4 ≥ x1) ∧ (x5 = (0 : Int))) ∨ ((x4 < x1) ∧ (x5 = (1 : Int))))) (h5 : (((0 : Int) ≤ x1) ∧ (x1 ≤ (65536 : Int)))) : (((0 : Int) ≤ x4) ∧ (x4 ≤ x1)) := by omega
theorem q_2833 {x0 x1 : Int} (h0 : (((0 : Int) ≤ x0) ∧ (x0 ≤ (3 : Int)))) (h1 : (((0 : Int) ≤ x1) ∧ (x1 ≤ (8 : Int)))) : ((x1 ≤ (8 : Int)) ∧ (((0 : Int) ≤ x0) ∧ ((x0 ≤ (3 : Int)) ∧ (((0 : Int) ≤ (1 : Int)) ∧ ((1 : Int) ≤ (1 : Int)))))) := by omega
theorem q_2834 {x0 x1 x2 x3 x4 x5 : Int} (h0 : (x0 = (0 : Int))) (h1 : (((0 : Int) ≤ x1) ∧ ((x1 + x2) ≤ (16384 : Int)))) (h2 : (((0 : Int) ≤ x3) ∧ (x3 ≤ x2))) (h3 : (inr x4)) (h4 : ((((x3 + x5) ≥ x2) ∧ (x4 = x2)) ∨ (((x3 + x5) < x2) ∧ (x4 = (x3 + x5))))) (h5 : (((x4 ≥ x2) ∧ (x0 = (0 : Int))) ∨ ((x4 < x2) ∧ (x0 = (1 : Int))))) : (((0 : Int) ≤ x3) ∧ ((x3 ≤ x4) ∧ (x4 ≤ x2))) := by omega
theorem q_2835 {x0 x1 x2 : Int} (h0 : (x0 = (0 : Int))) (h1 : (inr x1)) (h2 : (((0 : Int) ≤ x2) ∧ (x2 ≤ (100000000 : Int)))) : ((x0 = (1 : Int)) → (x2 ≤ ((40 : Int) + ((5 : Int) * x1)))) := by omega
theorem q_2836 {x0 x1 x2 x3 x4 x5 x6 : Int} (h0 : (x0 ≠ (0 : Int))) (h1 : (x1 = (0 : Int))) (h2 : (((0 : Int) ≤ x2) ∧ (x2 ≤ x3))) (h3 : ((x0 = (0 : Int)) ∨ (x0 = (1 : Int)))) (h4 : ((x0 = (1 : Int)) → (x4 ≤ ((40 : Int) + ((5 : Int) * x2))))) (h5 : (((x5 ≥ x3) ∧ (x1 = (0 : Int))) ∨ ((x5 < x3) ∧ (x1 = (1 : Int))))) (h6 : ((x4 ≤ x6) ∧ (x6 ≤ ((x4 + (4 : Int)) + (x5 - x2))))) (h7 : (((0 : Int) ≤ x6) ∧ (x6 ≤ (100000000 : Int)))) : (((0 : Int) ≤ x6) ∧ (x6 ≤ ((44 : Int) + ((5 : Int) * x5)))) := by omega
theorem q_2837 {x0 x1 x2 x3 x4 x5 x6 : Int} (h0 : (x0 = (0 : Int))) (h1 : (((0 : Int) ≤ x1) ∧ (x1 ≤ x2))) (h2 : ((((x1 + x3) ≥ x2) ∧ (x4 = x2)) ∨ (((x1 + x3) < x2) ∧ (x4 = (x1 + x3))))) (h3 : (((x4 ≥ x2) ∧ (x0 = (0 : Int))) ∨ ((x4 < x2) ∧ (x0 = (1 : Int))))) (h4 : ((x5 ≤ x6) ∧ (x6 ≤ ((x5 + (4 : Int)) + (x4 - x1))))) (h5 : (((0 : Int) ≤ x2) ∧ (x2 ≤ (65536 : Int)))) : (((0 : Int) ≤ x4) ∧ (x4 ≤ x2)) := by omega
theorem q_2838 {x0 x1 : Int} (h0 : (x0 ≤ x1)) : (((x1 ≥ x0) ∧ ((0 : Int) = (0 : Int))) ∨ ((x1 < x0) ∧ ((0 : Int) = (1 : Int)))) := by omega
theorem q_2839 {x0 x1 : Int} (h0 : (x0 < x1)) : (((x0 ≥ x1) ∧ ((1 : Int) = (0 : Int))) ∨ ((x0 < x1) ∧ ((1 : Int) = (1 : Int)))) := by omega
theorem q_2840 {x0 x1 x2 x3 : Int} (h0 : (((0 : Int) ≤ x0) ∧ (x0 ≤ x1))) (h1 : (((1 : Int) ≤ x2) ∧ (x2 ≤ (131072 : Int)))) (h2 : (((0 : Int) ≤ x3) ∧ (x3 ≤ ((44 : Int) + ((5 : Int) * x0))))) (h3 : (((0 : Int) ≤ x1) ∧ (x1 ≤ (65536 : Int)))) : (inr (x0 + x2)) := by omega
theorem q_2841 {x0 x1 x2 : Int} (h0 : (x0 ≤ (x1 + x2))) : ((((x1 + x2) ≥ x0) ∧ (x0 = x0)) ∨ (((x1 + x2) < x0) ∧ (x0 = (x1 + x2)))) := by omega
theorem q_2842 {x0 x1 x2 : Int} (h0 : ((x0 + x1) < x2)) : ((((x0 + x1) ≥ x2) ∧ ((x0 + x1) = x2)) ∨ (((x0 + x1) < x2) ∧ ((x0 + x1) = (x0 + x1)))) := by omega
theorem q_2843 {x0 x1 x2 x3 : Int} (h0 : ((x0 + x1) < x2)) (h1 : (((1 : Int) ≤ x1) ∧ (x1 ≤ (131072 : Int)))) (h2 : (((0 : Int) ≤ x3) ∧ (x3 ≤ ((44 : Int) + ((5 : Int) * x0))))) (h3 : (((0 : Int) ≤ x2) ∧ (x2 ≤ (65536 : Int)))) : (inr (x0 + x1)) := by omega
theorem q_2844 {x0 x1 : Int} (h0 : (x0 < x1)) : (((x0 < x1) ∧ (x0 = x0)) ∨ (((x0 ≥ x1) ∧ ((x1 ≠ (0 : Int)) ∧ (x0 = x1))) ∨ ((x0 ≥ x1) ∧ ((x1 = (0 : Int)) ∧ (x0 = x0))))) := by omega
theorem q_2845 {x0 x1 : Int} (h0 : (x0 ≤ x1)) (h1 : (x0 ≠ (0 : Int))) : (((x1 < x0) ∧ (x0 = x1)) ∨ (((x1 ≥ x0) ∧ ((x0 ≠ (0 : Int)) ∧ (x0 = x0))) ∨ ((x1 ≥ x0) ∧ ((x0 = (0 : Int)) ∧ (x0 = x1))))) := by omega
theorem q_2846 {x0 x1 : Int} (h0 : (x0 ≤ x1)) (h1 : (x0 = (0 : Int))) : (((x1 < x0) ∧ (x1 = x1)) ∨ (((x1 ≥ x0) ∧ ((x0 ≠ (0 : Int)) ∧ (x1 = x0))) ∨ ((x1 ≥ x0) ∧ ((x0 = (0 : Int)) ∧ (x1 = x1))))) := by omega
theorem q_2847 {x0 : Int} (h0 : ((131072 : Int) ≤ x0)) : (((x0 ≥ (131072 : Int)) ∧ ((131072 : Int) = (131072 : Int))) ∨ ((x0 < (131072 : Int)) ∧ (((0 : Int) ≤ x0) ∧ ((x0 ≤ (16777216 : Int)) ∧ ((131072 : Int) = x0))))) := by omega
theorem q_2848 {x0 : Int} (h0 : (((0 : Int) ≤ x0) ∧ (x0 ≤ (11 : Int)))) : (((0 : Int) ≤ ((10 : Int) + x0)) ∧ (((10 : Int) + x0) ≤ (31 : Int))) := by omega
theorem q_2849 {x0 x1 : Int} (h0 : (x0 = (0 : Int))) (h1 : (x0 = x1)) : (x1 = (0 : Int)) := by omega
theorem q_2850 {x0 x1 : Int} (h0 : (x0 ≠ (1 : Int))) : (((x0 ≠ (1 : Int)) ∧ (x1 = x1)) ∨ ((x0 = (1 : Int)) ∧ (x1 = (x1 - (256 : Int))))) := by omega
theorem q_2851 {x0 : Int} (h0 : (((0 : Int) ≤ x0) ∧ (x0 ≤ (65536 : Int)))) : (inr (x0 - (256 : Int))) := by omega
theorem q_2852 {x0 x1 : Int} (h0 : (x0 = (1 : Int))) : (((x0 ≠ (1 : Int)) ∧ ((x1 - (256 : Int)) = x1)) ∨ ((x0 = (1 : Int)) ∧ ((x1 - (256 : Int)) = (x1 - (256 : Int))))) := by omega
theorem q_2853 {x0 : Int} (h0 : (((0 : Int) ≤ x0) ∧ (x0 ≤ (65536 : Int)))) : (inrJ (x0 - (256 : Int))) := by omega
theorem q_2854 {x0 : Int} (h0 : (((0 : Int) ≤ x0) ∧ (x0 ≤ (11 : Int)))) : (((0 : Int) ≤ ((8 : Int) * x0)) ∧ (((8 : Int) * x0) ≤ (255 : Int))) := by omega
theorem q_2855 {x0 x1 : Int} (h0 : (x0 = ((0 : Int) + (4 : Int)))) (h1 : (x1 = (x0 + (1 : Int)))) (h2 : (((0 : Int) ≤ x1) ∧ (x1 ≤ (100000000 : Int)))) : (((0 : Int) ≤ x1) ∧ (x1 ≤ (6 : Int))) := by omega
theorem q_2856 {x0 x1 : Int} (h0 : (x0 = ((0 : Int) + (4 : Int)))) (h1 : (x1 = (x0 + (1 : Int)))) (h2 : (((0 : Int) ≤ x1) ∧ (x1 ≤ (100000000 : Int)))) : (((0 : Int) ≤ x1) ∧ (x1 ≤ (99999999 : Int))) := by omega
theorem q_2857 {x0 : Int} (h0 : (((0 : Int) ≤ x0) ∧ (x0 ≤ (11 : Int)))) : (inr ((8 : Int) * x0)) := by omega
theorem q_2858 {x0 x1 x2 : Int} (h0 : (x0 = ((0 : Int) + (4 : Int)))) (h1 : (x1 = (x2 + (1 : Int)))) (h2 : (x2 = (x0 + (1 : Int)))) (h3 : (((0 : Int) ≤ x1) ∧ (x1 ≤ (100000000 : Int)))) : (((0 : Int) ≤ x1) ∧ (x1 ≤ (6 : Int))) := by omega
theorem q_2859 {x0 : Int} (h0 : (x0 = (0 : Int))) : (((x0 = (0 : Int)) ∧ ((0 : Int) = (0 : Int))) ∨ ((x0 ≠ (0 : Int)) ∧ ((0 : Int) = (4 : Int)))) := by omega
theorem q_2860 {x0 : Int} (h0 : (x0 ≠ (0 : Int))) : (((x0 = (0 : Int)) ∧ ((4 : Int) = (0 : Int))) ∨ ((x0 ≠ (0 : Int)) ∧ ((4 : Int) = (4 : Int)))) := by omega
theorem q_2861 {x0 : Int} (h0 : (x0 = (0 : Int))) : (((x0 = (0 : Int)) ∧ ((0 : Int) = (0 : Int))) ∨ ((x0 ≠ (0 : Int)) ∧ ((0 : Int) = (32 : Int)))) := by omega
theorem q_2862 {x0 : Int} (h0 : (x0 ≠ (0 : Int))) : (((x0 = (0 : Int)) ∧ ((32 : Int) = (0 : Int))) ∨ ((x0 ≠ (0 : Int)) ∧ ((32 : Int) = (32 : Int)))) := by omega
theorem q_2863 : (inrJ (65536 : Int)) := by omega
theorem q_2864 {x0 x1 : Int} (h0 : (x0 = (0 : Int))) : ((x0 = (0 : Int)) ∨ ((x0 ≠ (0 : Int)) ∧ (x1 ≥ (256 : Int)))) := by omega
theorem q_2865 {x0 x1 : Int} (h0 : (x0 ≠ (0 : Int))) (h1 : ((256 : Int) ≤ x1)) : ((x0 = (0 : Int)) ∨ ((x0 ≠ (0 : Int)) ∧ (x1 ≥ (256 : Int)))) := by omega
theorem q_2866 {x0 : Int} (h0 : (x0 < (12 : Int))) : (((x0 + (1 : Int)) ≤ (0 : Int)) ∨ ((x0 + (1 : Int)) ≤ (12 : Int))) := by omega
theorem q_2867 {x0 : Int} (h0 : (((0 : Int) ≤ x0) ∧ (x0 ≤ (12 : Int)))) : ((0 : Int) ≤ (x0 + (1 : Int))) := by omega
theorem q_2868 : (((0 : Int) ≤ (65536 : Int)) ∧ ((65536 : Int) ≤ (16777216 : Int))) := by omega
theorem q_2869 : (inrJ (3962610743 : Int)) := by omega
theorem q_2870 {x0 : Int} (h0 : (x0 = ((0 : Int) + (4 : Int)))) (h1 : (((0 : Int) ≤ x0) ∧ (x0 ≤ (100000000 : Int)))) : (((0 : Int) ≤ x0) ∧ (x0 ≤ (90000000 : Int))) := by omega
theorem q_2871 {x0 x1 : Int} (h0 : (x0 = ((0 : Int) + (4 : Int)))) (h1 : (x1 = (x0 + (4 : Int)))) (h2 : (((0 : Int) ≤ x1) ∧ (x1 ≤ (100000000 : Int)))) : (((0 : Int) ≤ x1) ∧ (x1 ≤ (90000000 : Int))) := by omega
theorem q_2872 {x0 x1 : Int} (h0 : ((0 : Int) ≤ x0)) (h1 : ((x0 = (-(2 : Int))) ∨ (((0 : Int) ≤ x1) ∧ (x1 ≤ (2047 : Int))))) (h2 : (((0 : Int) ≤ x1) ∧ (x1 ≤ (100000000 : Int)))) : (((0 : Int) ≤ x1) ∧ (x1 ≤ (192000 : Int))) := by omega
theorem q_2873 : (inrJ (4 : Int)) := by omega
theorem q_2874 : (inrJ (8 : Int)) := by omega
theorem q_2875 {x0 x1 x2 : Int} (h0 : (x0 < x1)) (h1 : (((0 : Int) ≤ x2) ∧ (x2 ≤ ((700 : Int) + x0)))) (h2 : (((0 : Int) ≤ x1) ∧ (x1 ≤ (65536 : Int)))) (h3 : (((0 : Int) ≤ x2) ∧ (x2 ≤ (100000000 : Int)))) : (((0 : Int) ≤ x2) ∧ (x2 ≤ (99999999 : Int))) := by omega
theorem q_2876 {x0 x1 x2 : Int} (h0 : (((0 : Int) ≤ x0) ∧ (x0 ≤ ((700 : Int) + x1)))) (h1 : (x2 = (x0 + (1 : Int)))) (h2 : (((0 : Int) ≤ x2) ∧ (x2 ≤ (100000000 : Int)))) : (((0 : Int) ≤ x2) ∧ (x2 ≤ ((700 : Int) + (x1 + (1 : Int))))) := by omega
theorem q_2877 {x0 x1 : Int} (h0 : (((0 : Int) ≤ x0) ∧ (x0 ≤ x1))) : ((0 : Int) ≤ (x0 + (1 : Int))) := by omega
theorem q_2878 {x0 x1 : Int} (h0 : (x0 < (3 : Int))) (h1 : (((0 : Int) ≤ x0) ∧ (x0 ≤ (3 : Int)))) (h2 : (((0 : Int) ≤ x1) ∧ (x1 ≤ ((300 : Int) + ((100 : Int) * x0))))) : (((0 : Int) ≤ (x0 + (1 : Int))) ∧ ((x0 + (1 : Int)) ≤ (3 : Int))) := by omega
theorem q_2879 {x0 x1 : Int} (h0 : (x0 < (3 : Int))) (h1 : (((0 : Int) ≤ x1) ∧ (x1 ≤ ((300 : Int) + ((100 : Int) * x0))))) : (inr (x0 + (1 : Int))) := by omega
theorem q_2880 {x0 : Int} (h0 : (x0 < (3 : Int))) (h1 : (((0 : Int) ≤ x0) ∧ (x0 ≤ (3 : Int)))) : (((-(2147483648 : Int)) ≤ ((4 : Int) * x0)) ∧ (((4 : Int) * x0) ≤ (2147483647 : Int))) := by omega
theorem q_2881 {x0 : Int} (h0 : (((0 : Int) ≤ x0) ∧ (x0 ≤ (3 : Int)))) : ((0 : Int) ≤ (x0 + (1 : Int))) := by omega
theorem q_2882 {x0 : Int} (h0 : (x0 = (0 : Int))) (h1 : (((0 : Int) ≤ x0) ∧ (x0 ≤ (3 : Int)))) : (((0 : Int) ≤ x0) ∧ (x0 < ((3 : Nat) : Int))) := by omega
theorem q_2883 {x0 : Int} (h0 : (x0 = (0 : Int))) : (((0 : Int) ≤ (x0 + (1 : Int))) ∧ ((x0 + (1 : Int)) ≤ (3 : Int))) := by omega
theorem q_2884 {x0 x1 : Int} (h0 : (x0 < x1)) (h1 : (((0 : Int) ≤ x1) ∧ (x1 ≤ (16384 : Int)))) (h2 : (((0 : Int) ≤ x0) ∧ (x0 ≤ x1))) : (((0 : Int) ≤ x0) ∧ (x0 < ((16384 : Nat) : Int))) := by omega
theorem q_2885 : (((0 : Int) ≤ (0 : Int)) ∧ ((0 : Int) < ((10 : Nat) : Int))) := by omega
theorem q_2886 {x0 x1 x2 : Int} (h0 : (x0 = (0 : Int))) (h1 : ((x0 < (2 : Int)) → ((x1 + x2) ≤ (16384 : Int)))) : ((x1 + x2) ≤ (16384 : Int)) := by omega
theorem q_2887 : (((0 : Int) ≤ (3 : Int)) ∧ ((3 : Int) < ((10 : Nat) : Int))) := by omega
theorem q_2888 : (((0 : Int) ≤ (4 : Int)) ∧ ((4 : Int) < ((10 : Nat) : Int))) := by omega
theorem q_2889 : (((0 : Int) ≤ (5 : Int)) ∧ ((5 : Int) < ((10 : Nat) : Int))) := by omega
theorem q_2890 {x0 x1 x2 : Int} (h0 : (x0 = (1 : Int))) (h1 : ((x0 < (2 : Int)) → ((x1 + x2) ≤ (16384 : Int)))) : ((x1 + x2) ≤ (16384 : Int)) := by omega
theorem q_2891 {x0 x1 x2 : Int} (h0 : (x0 = (4 : Int))) (h1 : ((x0 = (4 : Int)) → ((x1 + x2) ≤ (16384 : Int)))) (h2 : (((0 : Int) ≤ x1) ∧ (x1 ≤ (65536 : Int)))) : (((0 : Int) ≤ x1) ∧ ((x1 + x2) ≤ (16384 : Int))) := by omega
theorem q_2892 : (((0 : Int) ≤ (9 : Int)) ∧ ((9 : Int) < ((10 : Nat) : Int))) := by omega
theorem q_2893 {x0 : Int} (h0 : (x0 ≤ (16384 : Int))) (h1 : (((0 : Int) ≤ x0) ∧ (x0 ≤ (65536 : Int)))) : (((0 : Int) ≤ x0) ∧ (x0 ≤ (16384 : Int))) := by omega
theorem q_2894 {x0 x1 : Int} (h0 : (((0 : Int) ≤ x0) ∧ (x0 ≤ (65536 : Int)))) (h1 : (((0 : Int) ≤ x1) ∧ (x1 ≤ (65536 : Int)))) : (inr (x1 + x0)) := by omega
theorem q_2895 : (((0 : Int) ≤ (1 : Int)) ∧ ((1 : Int) < ((10 : Nat) : Int))) := by omega
theorem q_2896 {x0 x1 x2 x3 : Int} (h0 : ((x0 + x1) ≤ (16384 : Int))) (h1 : (x2 = x0)) (h2 : (((0 : Int) ≤ x1) ∧ (x1 ≤ (65536 : Int)))) (h3 : (x3 = x2)) : (x3 ≤ (16384 : Int)) := by omega
theorem q_2897 {x0 x1 x2 x3 x4 x5 x6 : Int} (h0 : ((x0 + x1) ≤ (16384 : Int))) (h1 : (x2 = x0)) (h2 : (((x3 < (2 : Int)) ∧ (x1 = x4)) ∨ (((x3 = (4 : Int)) ∧ (x1 = x5)) ∨ (((2 : Int) ≤ x3) ∧ ((x3 ≠ (4 : Int)) ∧ (x1 = (0 : Int))))))) (h3 : (x6 = x2)) (h4 : (((0 : Int) ≤ x4) ∧ (x4 ≤ (65536 : Int)))) (h5 : (((0 : Int) ≤ x6) ∧ (x6 ≤ (65536 : Int)))) : ((x3 < (2 : Int)) → ((x4 + x6) ≤ (16384 : Int))) := by omega
theorem q_2900 {x0 x1 : Int} (h0 : (x0 ≤ x1)) : (((x0 ≤ x1) ∧ ((0 : Int) = (0 : Int))) ∨ ((x0 > x1) ∧ ((0 : Int) = (1 : Int)))) := by omega
theorem q_2901 {x0 x1 : Int} (h0 : (x0 < x1)) : (((x1 ≤ x0) ∧ ((1 : Int) = (0 : Int))) ∨ ((x1 > x0) ∧ ((1 : Int) = (1 : Int)))) := by omega
theorem q_2902 {x0 : Int} (h0 : ((0 : Int) ≤ x0)) (h1 : (x0 < (4 : Int))) : ((((1 : Int) = (1 : Int)) ∧ (((0 : Int) ≤ x0) ∧ (x0 ≤ (3 : Int)))) ∨ (((1 : Int) = (0 : Int)) ∧ (¬ (((0 : Int) ≤ x0) ∧ (x0 ≤ (3 : Int)))))) := by omega
theorem q_2903 {x0 x1 x2 x3 : Int} (h0 : ((0 : Int) ≤ x0)) (h1 : (x0 ≤ x1)) (h2 : (x1 ≤ x2)) (h3 : (x3 = x2)) : ((((1 : Int) = (1 : Int)) ∧ (((0 : Int) ≤ x0) ∧ ((x0 ≤ x1) ∧ (x1 ≤ x3)))) ∨ (((1 : Int) = (0 : Int)) ∧ (¬ (((0 : Int) ≤ x0) ∧ ((x0 ≤ x1) ∧ (x1 ≤ x3)))))) := by omega
theorem q_2904 : ((1 : Int) = (1 : Int)) := by omega
theorem q_2905 {x0 : Int} (h0 : (inr x0)) (h1 : (((0 : Int) ≤ x0) ∧ (x0 ≤ (16 : Int)))) : ((inr x0) ∧ ((0 : Int) ≤ x0)) := by omega
theorem q_2906 {x0 : Int} (h0 : (x0 < (16 : Int))) (h1 : (((0 : Int) ≤ x0) ∧ (x0 ≤ (16 : Int)))) : (((0 : Int) ≤ (x0 + (1 : Int))) ∧ ((x0 + (1 : Int)) ≤ (16 : Int))) := by omega
theorem q_2907 {x0 : Int} (h0 : (x0 < (16 : Int))) (h1 : (((0 : Int) ≤ x0) ∧ (x0 ≤ (16 : Int)))) : (inr (x0 + (1 : Int))) := by omega
theorem q_2908 {x0 : Int} (h0 : ((1 : Int) ≤ x0)) : (((0 : Int) ≤ (0 : Int)) ∧ ((0 : Int) ≤ x0)) := by omega
theorem q_2909 {x0 x1 : Int} (h0 : (x0 < x1)) (h1 : (x1 ≤ (8 : Int))) (h2 : (((0 : Int) ≤ x0) ∧ (x0 ≤ x1))) : (inr (x0 + (1 : Int))) := by omega
theorem q_2910 {x0 x1 : Int} (h0 : ((0 : Int) ≤ (x0 * x1))) : (((0 : Int) ≤ (0 : Int)) ∧ ((0 : Int) ≤ (x0 * x1))) := by omega
theorem q_2911 {x0 x1 x2 : Int} (h0 : (x0 < (x1 * x2))) (h1 : (((0 : Int) ≤ x0) ∧ (x0 ≤ (x1 * x2)))) : (((0 : Int) ≤ (x0 + (1 : Int))) ∧ ((x0 + (1 : Int)) ≤ (x1 * x2))) := by omega
theorem q_2912 {x0 x1 x2 x3 x4 x5 x6 : Int} (h0 : (x0 = x1)) (h1 : (x2 = x3)) (h2 : (((0 : Int) ≤ x4) ∧ (x4 ≤ (x5 * x6)))) (h3 : (x2 = (x0 + x4))) (h4 : (((0 : Int) ≤ x1) ∧ (x1 ≤ (65536 : Int)))) (h5 : (((0 : Int) ≤ x3) ∧ (x3 ≤ (65536 : Int)))) : (inr (x4 + (1 : Int))) := by omega
theorem q_2913 {x0 x1 x2 x3 x4 : Int} (h0 : (x0 < x1)) (h1 : (x0 < x2)) (h2 : (x3 = x1)) (h3 : (x4 = x2)) (h4 : (((0 : Int) ≤ x0) ∧ ((x0 ≤ x3) ∧ (x0 ≤ x4)))) : (((0 : Int) ≤ (x0 + (1 : Int))) ∧ (((x0 + (1 : Int)) ≤ x3) ∧ ((x0 + (1 : Int)) ≤ x4))) := by omega
theorem q_2914 {x0 x1 x2 x3 : Int} (h0 : (x0 < x1)) (h1 : (((0 : Int) ≤ x0) ∧ ((x0 ≤ x2) ∧ (x0 ≤ x3)))) (h2 : (((0 : Int) ≤ x1) ∧ (x1 ≤ (65536 : Int)))) : (inr (x0 + (1 : Int))) := by omega
theorem q_2915 {x0 : Int} : (((65536 : Int) - (x0 + (1 : Int))) < ((65536 : Int) - x0)) := by omega
theorem q_2916 {x0 x1 : Int} (h0 : (x0 < x1)) (h1 : (((0 : Int) ≤ x1) ∧ (x1 ≤ (65536 : Int)))) : ((0 : Int) < ((65536 : Int) - x0)) := by omega
theorem q_2917 {x0 x1 x2 x3 : Int} (h0 : (x0 < x1)) (h1 : (((0 : Int) ≤ x2) ∧ (x2 ≤ (3 : Int)))) (h2 : (((0 : Int) ≤ x0) ∧ (x0 ≤ x3))) (h3 : (((0 : Int) ≤ x1) ∧ (x1 ≤ (65536 : Int)))) : (((0 : Int) ≤ (((65536 : Int) * x2) + x0)) ∧ ((((65536 : Int) * x2) + x0) < ((262144 : Nat) : Int))) := by omega
theorem q_2918 {x0 x1 x2 : Int} (h0 : (x0 < x1)) (h1 : (((0 : Int) ≤ x0) ∧ (x0 ≤ x2))) (h2 : (((0 : Int) ≤ x1) ∧ (x1 ≤ (65536 : Int)))) : (((0 : Int) ≤ x0) ∧ (x0 < ((65536 : Nat) : Int))) := by omega
theorem q_2919 {x0 x1 x2 : Int} (h0 : (x0 < x1)) (h1 : (x2 = x1)) (h2 : (((0 : Int) ≤ x0) ∧ (x0 ≤ x2))) : (((0 : Int) ≤ (x0 + (1 : Int))) ∧ ((x0 + (1 : Int)) ≤ x2)) := by omega
theorem q_2920 {x0 x1 x2 : Int} (h0 : (x0 < x1)) (h1 : (((0 : Int) ≤ x0) ∧ (x0 ≤ x2))) (h2 : (((0 : Int) ≤ x1) ∧ (x1 ≤ (65536 : Int)))) : (inr (x0 + (1 : Int))) := by omega
theorem q_2921 {x0 x1 x2 : Int} (h0 : (x0 < x1)) (h1 : (((0 : Int) ≤ x2) ∧ (x2 ≤ (3 : Int)))) (h2 : (((0 : Int) ≤ x0) ∧ (x0 ≤ x1))) (h3 : (((0 : Int) ≤ x1) ∧ (x1 ≤ (65536 : Int)))) : (((0 : Int) ≤ (((65536 : Int) * x2) + x0)) ∧ ((((65536 : Int) * x2) + x0) < ((262144 : Nat) : Int))) := by omega
theorem q_2922 {x0 : Int} : ((((x0 + (1 : Int)) = (x0 + (1 : Int))) ∧ ((0 : Int) ≤ (1 : Int))) ∨ (((x0 + (1 : Int)) = x0) ∧ (((1 : Int) < (0 : Int)) ∨ ((65536 : Int) < (x0 + (1 : Int)))))) := by omega
theorem q_2923 {x0 x1 : Int} (h0 : (((0 : Int) ≤ x0) ∧ ((x0 ≤ x1) ∧ (x1 ≤ (65536 : Int))))) : (((-(2147483648 : Int)) ≤ (x0 + (1 : Int))) ∧ ((x0 + (1 : Int)) ≤ (2147483647 : Int))) := by omega
theorem q_2924 {x0 x1 x2 x3 x4 : Int} (h0 : (x0 < x1)) (h1 : (x2 = (x3 + x0))) (h2 : (((x3 + x1) ≤ x4) ∧ (x4 ≤ (65536 : Int)))) (h3 : (((-(2147483648 : Int)) ≤ x2) ∧ (x2 ≤ (2147483647 : Int)))) : (((-(2147483648 : Int)) ≤ (x2 + (1 : Int))) ∧ ((x2 + (1 : Int)) ≤ (2147483647 : Int))) := by omega
theorem q_2925 {x0 x1 x2 x3 x4 : Int} (h0 : (x0 < x1)) (h1 : ((0 : Int) ≤ x0)) (h2 : (x2 = (x3 + x0))) (h3 : (((x3 + x1) ≤ x4) ∧ (x4 ≤ (65536 : Int)))) (h4 : (((0 : Int) ≤ x3) ∧ ((x3 ≤ x4) ∧ (x4 ≤ (65536 : Int))))) : (((0 : Int) ≤ x2) ∧ (x2 < x4)) := by omega
theorem q_2926 {x0 x1 x2 x3 x4 x5 : Int} (h0 : (inr x0)) (h1 : ((x0 < (0 : Int)) ∨ (((0 : Int) ≤ x1) ∧ ((x1 + x0) ≤ x2)))) (h2 : (((0 : Int) ≤ x3) ∧ ((x3 ≤ x4) ∧ (x4 ≤ (65536 : Int))))) (h3 : (((x5 = (1 : Int)) ∧ (((0 : Int) ≤ x0) ∧ ((x3 + x0) ≤ x4))) ∨ ((x5 = (0 : Int)) ∧ ((x0 < (0 : Int)) ∨ ((65536 : Int) < (x3 + x0)))))) (h4 : (((0 : Int) ≤ x2) ∧ (x2 ≤ (1000000 : Int)))) (h5 : (((0 : Int) ≤ x4) ∧ (x4 ≤ (1000000 : Int)))) : (((-(2147483648 : Int)) ≤ (x3 + x0)) ∧ ((x3 + x0) ≤ (2147483647 : Int))) := by omega
theorem q_2927 {x0 x1 x2 x3 : Int} (h0 : (((0 : Int) ≤ x0) ∧ ((x0 ≤ x1) ∧ (x1 ≤ x2)))) (h1 : ((x3 ≤ x0) ∨ (x3 ≤ x1))) : (x3 ≤ x1) := by omega
theorem q_2928 {x0 x1 x2 x3 : Int} (h0 : (x0 < x1)) (h1 : (((0 : Int) ≤ x2) ∧ ((x2 ≤ x1) ∧ (x1 ≤ x3)))) (h2 : (x2 ≤ x0)) : (((0 : Int) ≤ x0) ∧ (x0 < x3)) := by omega
theorem q_2929 {x0 x1 x2 x3 : Int} (h0 : (x0 < x1)) (h1 : (((0 : Int) ≤ x2) ∧ ((x2 ≤ x1) ∧ (x1 ≤ x3)))) (h2 : (inr x0)) (h3 : (((0 : Int) ≤ x3) ∧ (x3 ≤ (1000000 : Int)))) : (inr (x0 + (1 : Int))) := by omega
theorem q_2930 {x0 x1 : Int} (h0 : (((0 : Int) ≤ x0) ∧ (x0 ≤ (31 : Int)))) (h1 : (((0 : Int) ≤ x1) ∧ (x1 ≤ (7 : Int)))) : (((-(2147483648 : Int)) ≤ (x1 + x0)) ∧ ((x1 + x0) ≤ (2147483647 : Int))) := by omega
theorem q_2931 {x0 x1 : Int} (h0 : (((0 : Int) ≤ x0) ∧ (x0 ≤ (31 : Int)))) (h1 : (((0 : Int) ≤ x1) ∧ (x1 ≤ (7 : Int)))) : (((0 : Int) ≤ (x1 + x0)) ∧ ((x1 + x0) ≤ (40 : Int))) := by omega
theorem q_2932 {x0 : Int} (h0 : (((0 : Int) ≤ x0) ∧ (x0 ≤ (40 : Int)))) : (inr x0) := by omega
theorem q_2933 {x0 : Int} (h0 : (x0 < (8 : Int))) (h1 : (((0 : Int) ≤ x0) ∧ (x0 ≤ (40 : Int)))) : (((0 : Int) ≤ x0) ∧ (x0 ≤ (7 : Int))) := by omega
theorem q_2934 {x0 x1 : Int} (h0 : (((0 : Int) ≤ x0) ∧ ((x0 ≤ x1) ∧ (x1 ≤ (65536 : Int))))) (h1 : (((0 : Int) ≤ x1) ∧ (x1 ≤ (1000000 : Int)))) : (inr x1) := by omega
theorem q_2935 {x0 : Int} (h0 : ((8 : Int) ≤ x0)) (h1 : (((0 : Int) ≤ x0) ∧ (x0 ≤ (40 : Int)))) : (((-(2147483648 : Int)) ≤ (x0 - (8 : Int))) ∧ ((x0 - (8 : Int)) ≤ (2147483647 : Int))) := by omega
theorem q_2936 {x0 : Int} (h0 : ((8 : Int) ≤ x0)) (h1 : (((0 : Int) ≤ x0) ∧ (x0 ≤ (40 : Int)))) : (((0 : Int) ≤ (x0 - (8 : Int))) ∧ ((x0 - (8 : Int)) ≤ (40 : Int))) := by omega
theorem q_2937 {x0 : Int} : ((x0 - (8 : Int)) < x0) := by omega
theorem q_2938 {x0 : Int} (h0 : ((8 : Int) ≤ x0)) : ((0 : Int) < x0) := by omega
theorem q_2939 {x0 x1 x2 : Int} : ((x0 = x0) ∨ ((x1 < (0 : Int)) ∨ ((65536 : Int) < (x2 + x1)))) := by omega
theorem q_2940 {x0 x1 x2 x3 x4 x5 x6 x7 : Int} (h0 : (x0 < x1)) (h1 : (inr x2)) (h2 : ((x1 < (0 : Int)) ∨ (((1 : Int) ≤ x2) ∧ ((x2 ≤ (x3 - x4)) ∨ ((x2 - (x3 - x4)) ≤ x5))))) (h3 : ((0 : Int) ≤ x0)) (h4 : (x6 = (x3 + x0))) (h5 : (((x3 + x1) ≤ x7) ∧ (x7 ≤ (65536 : Int)))) (h6 : (((0 : Int) ≤ x3) ∧ ((x3 ≤ x7) ∧ (x7 ≤ (65536 : Int))))) (h7 : (((-(2147483648 : Int)) ≤ x6) ∧ (x6 ≤ (2147483647 : Int)))) : (inr (x6 - x2)) := by omega
theorem q_2941 {x0 x1 x2 x3 x4 x5 x6 x7 : Int} (h0 : (x0 < x1)) (h1 : ((x2 - x3) < x4)) (h2 : (inr x3)) (h3 : (((0 : Int) ≤ x5) ∧ ((x5 ≤ x6) ∧ (x6 ≤ (65536 : Int))))) (h4 : (((0 : Int) ≤ x4) ∧ (x4 ≤ x7))) (h5 : ((x1 < (0 : Int)) ∨ (((1 : Int) ≤ x3) ∧ ((x3 ≤ (x7 - x4)) ∨ ((x3 - (x7 - x4)) ≤ x5))))) (h6 : ((0 : Int) ≤ x0)) (h7 : (x2 = (x7 + x0))) : (((0 : Int) ≤ ((x5 + (x2 - x3)) - x4)) ∧ (((x5 + (x2 - x3)) - x4) < x6)) := by omega
theorem q_2942 {x0 x1 x2 x3 : Int} (h0 : (x0 < x1)) (h1 : ((0 : Int) ≤ x0)) (h2 : (((x2 + x1) ≤ x3) ∧ (x3 ≤ (65536 : Int)))) (h3 : (((0 : Int) ≤ x2) ∧ ((x2 ≤ x3) ∧ (x3 ≤ (65536 : Int))))) : (inr (x0 + (1 : Int))) := by omega
theorem q_2943 {x0 x1 x2 x3 x4 x5 x6 : Int} (h0 : (x0 < x1)) (h1 : (inr x2)) (h2 : ((x1 < (0 : Int)) ∨ (((1 : Int) ≤ x2) ∧ (x2 ≤ (x3 - x4))))) (h3 : ((0 : Int) ≤ x0)) (h4 : (x5 = (x3 + x0))) (h5 : (((x3 + x1) ≤ x6) ∧ (x6 ≤ (65536 : Int)))) (h6 : (((0 : Int) ≤ x3) ∧ ((x3 ≤ x6) ∧ (x6 ≤ (65536 : Int))))) (h7 : (((-(2147483648 : Int)) ≤ x5) ∧ (x5 ≤ (2147483647 : Int)))) : (inr (x5 - x2)) := by omega
theorem q_2944 {x0 x1 : Int} (h0 : (((0 : Int) ≤ x0) ∧ ((x0 ≤ x1) ∧ (x1 ≤ (65536 : Int))))) : ((x0 < (0 : Int)) ∨ (((0 : Int) ≤ (0 : Int)) ∧ (((0 : Int) + x0) ≤ x1))) := by omega
theorem q_2945 {x0 x1 x2 : Int} (h0 : (((0 : Int) ≤ x0) ∧ ((x0 ≤ x1) ∧ (x1 ≤ (65536 : Int))))) (h1 : (x2 = (0 : Int))) (h2 : (((0 : Int) ≤ x1) ∧ (x1 ≤ (1000000 : Int)))) : (((0 : Int) ≤ x2) ∧ ((x2 ≤ x1) ∧ (x1 ≤ (65536 : Int)))) := by omega
theorem q_2946 {x0 x1 x2 x3 x4 : Int} (h0 : (((0 : Int) ≤ x0) ∧ ((x0 ≤ x1) ∧ (x1 ≤ (65536 : Int))))) (h1 : (((0 : Int) ≤ x2) ∧ ((x2 ≤ x3) ∧ (x3 ≤ (65536 : Int))))) (h2 : (((x2 = (x4 + x0)) ∧ ((0 : Int) ≤ x0)) ∨ ((x2 = x4) ∧ ((x0 < (0 : Int)) ∨ ((65536 : Int) < (x4 + x0)))))) (h3 : (x4 = (0 : Int))) : (x2 = x0) := by omega
theorem q_2947 {x0 x1 : Int} (h0 : (((0 : Int) ≤ x0) ∧ ((x0 + (4 : Int)) ≤ x1))) : (((0 : Int) ≤ x0) ∧ (x0 < x1)) := by omega
theorem q_2948 {x0 x1 : Int} (h0 : (((0 : Int) ≤ x0) ∧ ((x0 + (4 : Int)) ≤ x1))) : (((0 : Int) ≤ (x0 + (1 : Int))) ∧ ((x0 + (1 : Int)) < x1)) := by omega
theorem q_2949 {x0 x1 : Int} (h0 : (((0 : Int) ≤ x0) ∧ ((x0 + (4 : Int)) ≤ x1))) : (((0 : Int) ≤ (x0 + (2 : Int))) ∧ ((x0 + (2 : Int)) < x1)) := by omega
theorem q_2950 {x0 x1 : Int} (h0 : (((0 : Int) ≤ x0) ∧ ((x0 + (4 : Int)) ≤ x1))) : (((0 : Int) ≤ (x0 + (3 : Int))) ∧ ((x0 + (3 : Int)) < x1)) := by omega
theorem q_2951 {x0 : Int} (h0 : (((0 : Int) ≤ x0) ∧ (x0 ≤ (8 : Int)))) : (inr (x0 - (1 : Int))) := by omega
theorem q_2952 {x0 x1 : Int} (h0 : (x0 < (0 : Int))) (h1 : (((0 : Int) ≤ x1) ∧ (x1 ≤ (8 : Int)))) (h2 : (((x1 - (1 : Int)) ≤ x0) ∨ ((-(1 : Int)) ≤ x0))) : (((x1 - (1 : Int)) - x0) = x1) := by omega
theorem q_2953 {x0 x1 x2 x3 : Int} (h0 : ((0 : Int) ≤ x0)) (h1 : (inr x1)) (h2 : ((x2 ≤ (0 : Int)) ∨ (((0 : Int) ≤ x1) ∧ ((x1 + x2) ≤ x3)))) (h3 : (x0 ≤ (x2 - (1 : Int)))) (h4 : (((x2 - (1 : Int)) ≤ x0) ∨ ((-(1 : Int)) ≤ x0))) (h5 : (((0 : Int) ≤ x3) ∧ (x3 ≤ (1000000 : Int)))) : (((0 : Int) ≤ (x1 + x0)) ∧ ((x1 + x0) < x3)) := by omega
theorem q_2954 {x0 : Int} : (inrJ (x0 % (256 : Int))) := by omega
theorem q_2955 {x0 x1 x2 : Int} (h0 : (((0 : Int) ≤ x0) ∧ (((0 : Int) ≤ x1) ∧ ((x1 ≤ x2) ∧ ((x2 ≤ (65536 : Int)) ∧ (x0 ≤ (200000 : Int))))))) : (inr (x1 - x0)) := by omega
theorem q_2956 {x0 x1 x2 : Int} (h0 : (((0 : Int) ≤ x0) ∧ (((0 : Int) ≤ x1) ∧ ((x1 ≤ x2) ∧ ((x2 ≤ (65536 : Int)) ∧ (x0 ≤ (200000 : Int))))))) : (((0 : Int) = (1 : Int)) → ((x0 + (4 : Int)) ≤ x1)) := by omega
theorem q_2957 {x0 x1 x2 : Int} (h0 : ((4 : Int) ≤ (x0 - x1))) (h1 : (((0 : Int) ≤ x1) ∧ (((0 : Int) ≤ x0) ∧ ((x0 ≤ x2) ∧ ((x2 ≤ (65536 : Int)) ∧ (x1 ≤ (200000 : Int))))))) : (((0 : Int) ≤ x1) ∧ ((x1 + (4 : Int)) ≤ x2)) := by omega
theorem q_2958 : (inr (-(16 : Int))) := by omega
theorem q_2959 : (inr (407710288 : Int)) := by omega
theorem q_2960 {x0 x1 : Int} (h0 : ((4 : Int) ≤ (x0 - x1))) : (((0 : Int) = (1 : Int)) → ((x1 + (4 : Int)) ≤ x0)) := by omega
theorem q_2961 {x0 x1 : Int} (h0 : ((4 : Int) ≤ (x0 - x1))) : (((1 : Int) = (1 : Int)) → ((x1 + (4 : Int)) ≤ x0)) := by omega
theorem q_2962 {x0 x1 x2 : Int} (h0 : (((0 : Int) ≤ x0) ∧ (((0 : Int) ≤ x1) ∧ ((x1 ≤ x2) ∧ ((x2 ≤ (65536 : Int)) ∧ (x0 ≤ (200000 : Int))))))) : (inr (x0 + (8 : Int))) := by omega
theorem q_2963 {x0 x1 x2 : Int} (h0 : ((8 : Int) ≤ (x0 - x1))) (h1 : (((0 : Int) ≤ x1) ∧ (((0 : Int) ≤ x0) ∧ ((x0 ≤ x2) ∧ ((x2 ≤ (65536 : Int)) ∧ (x1 ≤ (200000 : Int))))))) : (((4 : Int) ≤ (0 : Int)) ∨ (((0 : Int) ≤ (x1 + (4 : Int))) ∧ (((x1 + (4 : Int)) + (4 : Int)) ≤ x2))) := by omega
theorem q_2964 {x0 x1 x2 : Int} (h0 : (((0 : Int) ≤ x0) ∧ (((0 : Int) ≤ x1) ∧ ((x1 ≤ x2) ∧ ((x2 ≤ (65536 : Int)) ∧ (x0 ≤ (200000 : Int))))))) : (inr (x0 + (4 : Int))) := by omega
theorem q_2965 {x0 x1 x2 : Int} (h0 : (((0 : Int) ≤ x0) ∧ (((0 : Int) ≤ x1) ∧ ((x1 ≤ x2) ∧ ((x2 ≤ (65536 : Int)) ∧ (x0 ≤ (200000 : Int))))))) : (inrJ x1) := by omega
theorem q_2966 {x0 x1 : Int} : (((-(1 : Int)) = (-(1 : Int))) ∨ (((x0 + (8 : Int)) ≤ (-(1 : Int))) ∧ ((-(1 : Int)) ≤ x1))) := by omega
theorem q_2967 {x0 x1 x2 x3 : Int} (h0 : (inr x0)) (h1 : (((0 : Int) ≤ x1) ∧ ((x1 ≤ x0) ∧ (x0 ≤ x2)))) (h2 : ((x1 ≤ x3) ∧ (x3 ≤ x0))) : (inr (x0 - x3)) := by omega
theorem q_2968 {x0 x1 x2 x3 : Int} (h0 : (x0 < x1)) (h1 : (((0 : Int) ≤ x2) ∧ ((x2 ≤ x1) ∧ (x1 ≤ x3)))) (h2 : ((x2 ≤ x0) ∧ (x0 ≤ x1))) : (((0 : Int) ≤ x0) ∧ (x0 < x3)) := by omega
theorem q_2969 {x0 x1 x2 x3 : Int} (h0 : ((4 : Int) ≤ (x0 - x1))) (h1 : (((0 : Int) ≤ x2) ∧ ((x2 ≤ x0) ∧ (x0 ≤ x3)))) (h2 : ((x2 ≤ x1) ∧ (x1 ≤ x0))) : (((0 : Int) ≤ x1) ∧ ((x1 + (4 : Int)) ≤ x3)) := by omega
theorem q_2970 {x0 x1 x2 x3 : Int} (h0 : ((4 : Int) ≤ (x0 - x1))) (h1 : (((0 : Int) ≤ x2) ∧ ((x2 ≤ x0) ∧ (x0 ≤ x3)))) (h2 : (inr x1)) (h3 : (((0 : Int) ≤ x3) ∧ (x3 ≤ (1000000 : Int)))) : (inr (x1 + (4 : Int))) := by omega
theorem q_2971 {x0 x1 x2 x3 : Int} (h0 : (inr x0)) (h1 : (((0 : Int) ≤ x1) ∧ ((x1 ≤ x0) ∧ (x0 ≤ x2)))) (h2 : ((x1 ≤ x3) ∧ (x3 ≤ x0))) : (inr x3) := by omega
theorem q_2972 {x0 x1 x2 x3 : Int} (h0 : ((16 : Int) ≤ (x0 - x1))) (h1 : (((0 : Int) ≤ x2) ∧ ((x2 ≤ x0) ∧ (x0 ≤ x3)))) (h2 : ((x2 ≤ x1) ∧ (x1 ≤ x0))) : (((0 : Int) ≤ x1) ∧ ((x1 + (4 : Int)) ≤ x3)) := by omega
theorem q_2973 {x0 x1 x2 x3 : Int} (h0 : ((16 : Int) ≤ (x0 - x1))) (h1 : (inr x0)) (h2 : (((0 : Int) ≤ x2) ∧ ((x2 ≤ x0) ∧ (x0 ≤ x3)))) (h3 : ((x2 ≤ x1) ∧ (x1 ≤ x0))) : (inr x1) := by omega
theorem q_2974 {x0 x1 x2 x3 : Int} (h0 : ((16 : Int) ≤ (x0 - x1))) (h1 : (((0 : Int) ≤ x2) ∧ ((x2 ≤ x0) ∧ (x0 ≤ x3)))) (h2 : ((x2 ≤ x1) ∧ (x1 ≤ x0))) : (((0 : Int) ≤ (x1 + (4 : Int))) ∧ (((x1 + (4 : Int)) + (4 : Int)) ≤ x3)) := by omega
theorem q_2975 {x0 x1 x2 x3 : Int} (h0 : ((16 : Int) ≤ (x0 - x1))) (h1 : (inr x0)) (h2 : (((0 : Int) ≤ x2) ∧ ((x2 ≤ x0) ∧ (x0 ≤ x3)))) (h3 : ((x2 ≤ x1) ∧ (x1 ≤ x0))) : (inr (x1 + (4 : Int))) := by omega
theorem q_2976 {x0 x1 x2 x3 : Int} (h0 : ((16 : Int) ≤ (x0 - x1))) (h1 : (((0 : Int) ≤ x2) ∧ ((x2 ≤ x0) ∧ (x0 ≤ x3)))) (h2 : ((x2 ≤ x1) ∧ (x1 ≤ x0))) : (((0 : Int) ≤ (x1 + (8 : Int))) ∧ (((x1 + (8 : Int)) + (4 : Int)) ≤ x3)) := by omega
theorem q_2977 {x0 x1 x2 x3 : Int} (h0 : ((16 : Int) ≤ (x0 - x1))) (h1 : (inr x0)) (h2 : (((0 : Int) ≤ x2) ∧ ((x2 ≤ x0) ∧ (x0 ≤ x3)))) (h3 : ((x2 ≤ x1) ∧ (x1 ≤ x0))) : (inr (x1 + (8 : Int))) := by omega
theorem q_2978 {x0 x1 x2 x3 : Int} (h0 : ((16 : Int) ≤ (x0 - x1))) (h1 : (((0 : Int) ≤ x2) ∧ ((x2 ≤ x0) ∧ (x0 ≤ x3)))) (h2 : ((x2 ≤ x1) ∧ (x1 ≤ x0))) : (((0 : Int) ≤ (x1 + (12 : Int))) ∧ (((x1 + (12 : Int)) + (4 : Int)) ≤ x3)) := by omega
theorem q_2979 {x0 x1 x2 x3 : Int} (h0 : ((16 : Int) ≤ (x0 - x1))) (h1 : (inr x0)) (h2 : (((0 : Int) ≤ x2) ∧ ((x2 ≤ x0) ∧ (x0 ≤ x3)))) (h3 : ((x2 ≤ x1) ∧ (x1 ≤ x0))) : (inr (x1 + (12 : Int))) := by omega
theorem q_2980 {x0 x1 x2 x3 : Int} (h0 : ((16 : Int) ≤ (x0 - x1))) (h1 : (inr x0)) (h2 : (((0 : Int) ≤ x2) ∧ ((x2 ≤ x0) ∧ (x0 ≤ x3)))) (h3 : ((x2 ≤ x1) ∧ (x1 ≤ x0))) : (inr (x1 + (16 : Int))) := by omega
theorem q_2981 {x0 x1 : Int} (h0 : (x0 < x1)) (h1 : (inr x1)) (h2 : (inr x0)) : (inr (x0 + (1 : Int))) := by omega
theorem q_2982 {x0 x1 x2 x3 : Int} (h0 : ((4 : Int) ≤ (x0 - x1))) (h1 : (((0 : Int) ≤ x2) ∧ ((x2 ≤ x0) ∧ (x0 ≤ x3)))) (h2 : ((x2 ≤ x1) ∧ (x1 ≤ x0))) : (((4 : Int) ≤ (0 : Int)) ∨ (((0 : Int) ≤ x1) ∧ ((x1 + (4 : Int)) ≤ x3))) := by omega
theorem q_2983 {x0 x1 x2 x3 : Int} (h0 : ((8 : Int) ≤ (x0 - x1))) (h1 : (((0 : Int) ≤ x2) ∧ ((x2 ≤ x0) ∧ (x0 ≤ x3)))) (h2 : ((x2 ≤ x1) ∧ (x1 ≤ x0))) : (((8 : Int) ≤ (0 : Int)) ∨ (((0 : Int) ≤ x1) ∧ ((x1 + (8 : Int)) ≤ x3))) := by omega
theorem q_2984 {x0 x1 x2 x3 : Int} (h0 : ((8 : Int) ≤ (x0 - x1))) (h1 : (((0 : Int) ≤ x2) ∧ ((x2 ≤ x0) ∧ (x0 ≤ x3)))) (h2 : (inr x1)) (h3 : (((0 : Int) ≤ x3) ∧ (x3 ≤ (1000000 : Int)))) : (inr (x1 + (8 : Int))) := by omega
theorem q_2985 {x0 x1 x2 x3 : Int} (h0 : (((0 : Int) ≤ x0) ∧ ((x0 ≤ x1) ∧ (x1 ≤ x2)))) (h1 : ((x0 ≤ x3) ∧ (x3 ≤ x1))) : (((0 : Int) ≤ x3) ∧ ((x3 ≤ x1) ∧ (x1 ≤ x2))) := by omega
theorem q_2986 {x0 x1 x2 x3 : Int} (h0 : ((32 : Int) ≤ (x0 - x1))) (h1 : (((0 : Int) ≤ x2) ∧ ((x2 ≤ x0) ∧ (x0 ≤ x3)))) (h2 : ((x2 ≤ x1) ∧ (x1 ≤ x0))) : (((8 : Int) ≤ (0 : Int)) ∨ (((0 : Int) ≤ x1) ∧ ((x1 + (8 : Int)) ≤ x3))) := by omega
theorem q_2987 {x0 x1 x2 x3 : Int} (h0 : ((32 : Int) ≤ (x0 - x1))) (h1 : (inr x0)) (h2 : (((0 : Int) ≤ x2) ∧ ((x2 ≤ x0) ∧ (x0 ≤ x3)))) (h3 : ((x2 ≤ x1) ∧ (x1 ≤ x0))) : (inr x1) := by omega
theorem q_2988 {x0 x1 x2 x3 : Int} (h0 : ((32 : Int) ≤ (x0 - x1))) (h1 : (((0 : Int) ≤ x2) ∧ ((x2 ≤ x0) ∧ (x0 ≤ x3)))) (h2 : ((x2 ≤ x1) ∧ (x1 ≤ x0))) : (((8 : Int) ≤ (0 : Int)) ∨ (((0 : Int) ≤ (x1 + (8 : Int))) ∧ (((x1 + (8 : Int)) + (8 : Int)) ≤ x3))) := by omega
theorem q_2989 {x0 x1 x2 x3 : Int} (h0 : ((32 : Int) ≤ (x0 - x1))) (h1 : (inr x0)) (h2 : (((0 : Int) ≤ x2) ∧ ((x2 ≤ x0) ∧ (x0 ≤ x3)))) (h3 : ((x2 ≤ x1) ∧ (x1 ≤ x0))) : (inr (x1 + (8 : Int))) := by omega
theorem q_2990 {x0 x1 x2 x3 : Int} (h0 : ((32 : Int) ≤ (x0 - x1))) (h1 : (((0 : Int) ≤ x2) ∧ ((x2 ≤ x0) ∧ (x0 ≤ x3)))) (h2 : ((x2 ≤ x1) ∧ (x1 ≤ x0))) : (((8 : Int) ≤ (0 : Int)) ∨ (((0 : Int) ≤ (x1 + (16 : Int))) ∧ (((x1 + (16 : Int)) + (8 : Int)) ≤ x3))) := by omega
theorem q_2991 {x0 x1 x2 x3 : Int} (h0 : ((32 : Int) ≤ (x0 - x1))) (h1 : (inr x0)) (h2 : (((0 : Int) ≤ x2) ∧ ((x2 ≤ x0) ∧ (x0 ≤ x3)))) (h3 : ((x2 ≤ x1) ∧ (x1 ≤ x0))) : (inr (x1 + (16 : Int))) := by omega
theorem q_2992 {x0 x1 x2 x3 : Int} (h0 : ((32 : Int) ≤ (x0 - x1))) (h1 : (((0 : Int) ≤ x2) ∧ ((x2 ≤ x0) ∧ (x0 ≤ x3)))) (h2 : ((x2 ≤ x1) ∧ (x1 ≤ x0))) : (((8 : Int) ≤ (0 : Int)) ∨ (((0 : Int) ≤ (x1 + (24 : Int))) ∧ (((x1 + (24 : Int)) + (8 : Int)) ≤ x3))) := by omega
theorem q_2993 {x0 x1 x2 x3 : Int} (h0 : ((32 : Int) ≤ (x0 - x1))) (h1 : (inr x0)) (h2 : (((0 : Int) ≤ x2) ∧ ((x2 ≤ x0) ∧ (x0 ≤ x3)))) (h3 : ((x2 ≤ x1) ∧ (x1 ≤ x0))) : (inr (x1 + (24 : Int))) := by omega
theorem q_2994 {x0 x1 x2 x3 : Int} (h0 : ((32 : Int) ≤ (x0 - x1))) (h1 : (inr x0)) (h2 : (((0 : Int) ≤ x2) ∧ ((x2 ≤ x0) ∧ (x0 ≤ x3)))) (h3 : ((x2 ≤ x1) ∧ (x1 ≤ x0))) : (inr (x1 + (32 : Int))) := by omega
theorem q_3005 : (((0 : Int) ≤ (0 : Int)) ∨ ((0 : Int) ≤ (10 : Int))) := by omega
theorem q_3006 {x0 x1 x2 x3 : Int} (h0 : ((10 : Int) ≤ (x0 - x1))) (h1 : (x2 < (10 : Int))) (h2 : (((0 : Int) ≤ x1) ∧ (((0 : Int) ≤ x0) ∧ ((x0 ≤ x3) ∧ ((x3 ≤ (65536 : Int)) ∧ (x1 ≤ (200000 : Int))))))) (h3 : ((0 : Int) ≤ x2)) : (((0 : Int) ≤ (x1 + x2)) ∧ ((x1 + x2) < x3)) := by omega
theorem q_3007 {x0 : Int} (h0 : (x0 < (10 : Int))) (h1 : ((0 : Int) ≤ x0)) : (((0 : Int) ≤ x0) ∧ (x0 < (10 : Int))) := by omega
theorem q_3008 {x0 : Int} (h0 : (x0 < (10 : Int))) : (((x0 + (1 : Int)) ≤ (0 : Int)) ∨ ((x0 + (1 : Int)) ≤ (10 : Int))) := by omega
theorem q_3009 {x0 : Int} (h0 : (x0 < (10 : Int))) (h1 : ((0 : Int) ≤ x0)) : (inr (x0 + (1 : Int))) := by omega
theorem q_3010 {x0 : Int} : (((10 : Int) - (x0 + (1 : Int))) < ((10 : Int) - x0)) := by omega
theorem q_3011 {x0 : Int} (h0 : (x0 < (10 : Int))) : ((0 : Int) < ((10 : Int) - x0)) := by omega
theorem q_3012 {x0 x1 : Int} (h0 : (((0 : Int) ≤ x0) ∧ ((x0 ≤ x1) ∧ (x1 ≤ (65536 : Int))))) : (((0 : Int) ≤ (0 : Int)) ∧ ((0 : Int) ≤ (x0 + (1 : Int)))) := by omega
theorem q_3013 {x0 x1 : Int} (h0 : (((0 : Int) ≤ x0) ∧ ((x0 ≤ x1) ∧ (x1 ≤ (65536 : Int))))) : (((0 : Int) ≤ (0 : Int)) ∧ ((0 : Int) ≤ x0)) := by omega
theorem q_3014 {x0 x1 x2 : Int} (h0 : (((0 : Int) ≤ x0) ∧ ((x0 ≤ x1) ∧ (x1 ≤ (65536 : Int))))) (h1 : (((0 : Int) ≤ x2) ∧ (x2 ≤ x0))) : (inr (x0 - x2)) := by omega
theorem q_3015 {x0 x1 x2 : Int} (h0 : ((4 : Int) ≤ (x0 - x1))) (h1 : (((0 : Int) ≤ x0) ∧ ((x0 ≤ x2) ∧ (x2 ≤ (65536 : Int))))) (h2 : (((0 : Int) ≤ x1) ∧ (x1 ≤ x0))) : (((0 : Int) ≤ x1) ∧ ((x1 + (4 : Int)) ≤ x2)) := by omega
theorem q_3016 : (((5 : Int) = (0 : Int)) ∨ (((5 : Int) = (1 : Int)) ∨ (((3 : Int) ≤ (5 : Int)) ∧ ((5 : Int) ≤ (5 : Int))))) := by omega
theorem q_3017 : (((4 : Int) = (0 : Int)) ∨ (((4 : Int) = (1 : Int)) ∨ (((3 : Int) ≤ (4 : Int)) ∧ ((4 : Int) ≤ (5 : Int))))) := by omega
theorem q_3018 : (((1 : Int) = (0 : Int)) ∨ (((1 : Int) = (1 : Int)) ∨ (((3 : Int) ≤ (1 : Int)) ∧ ((1 : Int) ≤ (5 : Int))))) := by omega
theorem q_3019 {x0 x1 x2 : Int} (h0 : ((4 : Int) ≤ (x0 - x1))) (h1 : (((0 : Int) ≤ x0) ∧ ((x0 ≤ x2) ∧ (x2 ≤ (65536 : Int))))) (h2 : (((0 : Int) ≤ x1) ∧ (x1 ≤ x0))) : (((0 : Int) ≤ x1) ∧ (((0 : Int) ≤ x0) ∧ ((x0 ≤ x2) ∧ ((x2 ≤ (65536 : Int)) ∧ (x1 ≤ (200000 : Int)))))) := by omega
theorem q_3020 : (((0 : Int) = (0 : Int)) ∨ (((0 : Int) = (1 : Int)) ∨ (((3 : Int) ≤ (0 : Int)) ∧ ((0 : Int) ≤ (5 : Int))))) := by omega
theorem q_3021 : (((3 : Int) = (0 : Int)) ∨ (((3 : Int) = (1 : Int)) ∨ (((3 : Int) ≤ (3 : Int)) ∧ ((3 : Int) ≤ (5 : Int))))) := by omega
theorem q_3022 {x0 x1 x2 : Int} (h0 : (((0 : Int) ≤ x0) ∧ ((x0 ≤ x1) ∧ (x1 ≤ (65536 : Int))))) (h1 : (((0 : Int) ≤ x2) ∧ (x2 ≤ x0))) : (((0 : Int) ≤ x2) ∧ (((0 : Int) ≤ x0) ∧ ((x0 ≤ x1) ∧ ((x1 ≤ (65536 : Int)) ∧ (x2 ≤ (200000 : Int)))))) := by omega
theorem q_3023 {x0 x1 : Int} (h0 : (x0 ≤ x1)) (h1 : (((0 : Int) ≤ x0) ∧ (x0 ≤ (x1 + (1 : Int))))) : (((0 : Int) ≤ (x0 + (1 : Int))) ∧ ((x0 + (1 : Int)) ≤ (x1 + (1 : Int)))) := by omega
theorem q_3024 {x0 x1 x2 x3 : Int} (h0 : ((0 : Int) ≤ x0)) (h1 : (((0 : Int) ≤ x1) ∧ ((x1 ≤ x2) ∧ (x2 ≤ (65536 : Int))))) (h2 : ((x0 = (-(1 : Int))) ∨ (((x3 + (8 : Int)) ≤ x0) ∧ (x0 ≤ x1)))) : (((0 : Int) ≤ x0) ∧ (x0 ≤ x1)) := by omega
theorem q_3025 {x0 x1 x2 : Int} (h0 : (x0 ≤ x1)) (h1 : (((0 : Int) ≤ x1) ∧ ((x1 ≤ x2) ∧ (x2 ≤ (65536 : Int))))) (h2 : (((0 : Int) ≤ x0) ∧ (x0 ≤ (x1 + (1 : Int))))) : (inr (x0 + (1 : Int))) := by omega
theorem q_3026 {x0 x1 : Int} (h0 : (x0 ≤ x1)) : ((0 : Int) < ((x1 + (2 : Int)) - x0)) := by omega
theorem q_3027 {x0 x1 x2 : Int} (h0 : (((0 : Int) ≤ x0) ∧ ((x1 ≤ x2) ∧ ((x2 ≤ (65536 : Int)) ∧ (((0 : Int) ≤ x1) ∧ (x0 ≤ (200000 : Int))))))) : (((-(2147483648 : Int)) ≤ x0) ∧ (x0 ≤ (2147483647 : Int))) := by omega
theorem q_3028 {x0 x1 : Int} : ((((0 : Int) = (0 : Int)) ∧ ((0 : Int) = (0 : Int))) ∨ (((0 : Int) = (1 : Int)) ∧ (((0 : Int) ≤ (0 : Int)) ∧ ((0 : Int) < ((8 : Int) * (x0 - x1)))))) := by omega
theorem q_3029 {x0 x1 x2 : Int} (h0 : (x0 < x1)) (h1 : (((0 : Int) ≤ x0) ∧ ((x1 ≤ x2) ∧ ((x2 ≤ (65536 : Int)) ∧ (((0 : Int) ≤ x1) ∧ (x0 ≤ (200000 : Int))))))) : (((0 : Int) ≤ (x1 - (1 : Int))) ∧ ((x1 - (1 : Int)) < x2)) := by omega
theorem q_3030 {x0 x1 x2 x3 : Int} (h0 : (x0 < x1)) (h1 : (((0 : Int) ≤ x0) ∧ ((x1 ≤ x2) ∧ ((x2 ≤ (65536 : Int)) ∧ (((0 : Int) ≤ x1) ∧ (x0 ≤ (200000 : Int))))))) (h2 : (x3 < (8 : Int))) (h3 : (((0 : Int) ≤ x3) ∧ (x3 ≤ (30 : Int)))) : (((-(2147483648 : Int)) ≤ (((8 : Int) * ((x1 - x0) - (1 : Int))) + x3)) ∧ ((((8 : Int) * ((x1 - x0) - (1 : Int))) + x3) ≤ (2147483647 : Int))) := by omega
theorem q_3031 {x0 x1 x2 : Int} (h0 : (x0 < x1)) (h1 : (x2 < (8 : Int))) (h2 : (((0 : Int) ≤ x2) ∧ (x2 ≤ (30 : Int)))) : ((((1 : Int) = (0 : Int)) ∧ ((((8 : Int) * ((x1 - x0) - (1 : Int))) + x2) = (0 : Int))) ∨ (((1 : Int) = (1 : Int)) ∧ (((0 : Int) ≤ (((8 : Int) * ((x1 - x0) - (1 : Int))) + x2)) ∧ ((((8 : Int) * ((x1 - x0) - (1 : Int))) + x2) < ((8 : Int) * (x1 - x0)))))) := by omega
theorem q_3032 {x0 x1 x2 : Int} (h0 : (((0 : Int) ≤ x0) ∧ (x0 ≤ (31 : Int)))) (h1 : ((-(100 : Int)) ≤ x1)) (h2 : (((x1 ≤ x0) ∧ (x2 = (0 : Int))) ∨ ((x1 > x0) ∧ (x2 = (x1 - x0))))) : (inr (x1 - x2)) := by omega
theorem q_3033 {x0 x1 x2 : Int} (h0 : (((0 : Int) ≤ x0) ∧ ((x0 ≤ (65536 : Int)) ∧ ((x1 ≤ ((8 : Int) * (x2 - x0))) ∧ (x2 ≤ (65536 : Int)))))) (h1 : ((-(100 : Int)) ≤ x1)) : (inr (x1 - (1 : Int))) := by omega
theorem q_3034 {x0 x1 x2 : Int} (h0 : ((0 : Int) < (x0 - x1))) (h1 : (((0 : Int) ≤ x2) ∧ (x2 ≤ (31 : Int)))) (h2 : (((x0 ≤ x2) ∧ (x1 = (0 : Int))) ∨ ((x0 > x2) ∧ (x1 = (x0 - x2))))) : (((0 : Int) ≤ (x0 - x1)) ∧ ((x0 - x1) ≤ (63 : Int))) := by omega
theorem q_3035 {x0 x1 x2 : Int} (h0 : ((0 : Int) < (x0 - x1))) (h1 : (((0 : Int) ≤ x2) ∧ (x2 ≤ (31 : Int)))) (h2 : (((x0 ≤ x2) ∧ (x1 = (0 : Int))) ∨ ((x0 > x2) ∧ (x1 = (x0 - x2))))) : (((0 : Int) ≤ (x2 - (x0 - x1))) ∧ ((x2 - (x0 - x1)) ≤ (63 : Int))) := by omega
theorem q_3036 {x0 x1 x2 : Int} (h0 : (x0 ≤ x1)) (h1 : (((x0 - (1 : Int)) ≤ x1) ∧ (x1 ≤ x2))) : (((x0 - (1 : Int)) ≤ (x1 + (-(1 : Int)))) ∧ ((x1 + (-(1 : Int))) ≤ x2)) := by omega
theorem q_3037 {x0 : Int} (h0 : (((0 : Int) ≤ x0) ∧ (x0 ≤ (31 : Int)))) : ((0 : Int) ≤ x0) := by omega
theorem q_3038 {x0 x1 x2 : Int} (h0 : (((0 : Int) ≤ x0) ∧ ((x0 ≤ (65536 : Int)) ∧ ((x1 ≤ ((8 : Int) * (x2 - x0))) ∧ (x2 ≤ (65536 : Int)))))) (h1 : ((-(100 : Int)) ≤ x1)) : (inr x1) := by omega
theorem q_3039 {x0 x1 : Int} (h0 : (x0 ≤ x1)) : (((x0 ≤ x1) ∧ ((0 : Int) = (0 : Int))) ∨ ((x0 > x1) ∧ ((0 : Int) = (x0 - x1)))) := by omega
theorem q_3040 {x0 x1 : Int} (h0 : (x0 < x1)) : (((x1 ≤ x0) ∧ ((x1 - x0) = (0 : Int))) ∨ ((x1 > x0) ∧ ((x1 - x0) = (x1 - x0)))) := by omega
theorem q_3041 {x0 x1 x2 x3 : Int} (h0 : (x0 < x1)) (h1 : (((0 : Int) ≤ x0) ∧ (x0 ≤ (31 : Int)))) (h2 : (((0 : Int) ≤ x2) ∧ ((x2 ≤ (65536 : Int)) ∧ ((x1 ≤ ((8 : Int) * (x3 - x2))) ∧ (x3 ≤ (65536 : Int)))))) : (inr (x1 - x0)) := by omega
theorem q_3042 {x0 x1 x2 x3 : Int} (h0 : (((0 : Int) ≤ x0) ∧ (x0 ≤ (31 : Int)))) (h1 : (((0 : Int) ≤ x1) ∧ ((x1 ≤ (65536 : Int)) ∧ ((x2 ≤ ((8 : Int) * (x3 - x1))) ∧ (x3 ≤ (65536 : Int)))))) (h2 : ((-(100 : Int)) ≤ x2)) : (((-(2147483648 : Int)) ≤ (x2 - x0)) ∧ ((x2 - x0) ≤ (2147483647 : Int))) := by omega
theorem q_3043 {x0 x1 x2 x3 : Int} (h0 : (x0 ≤ (3 : Int))) (h1 : (((1 : Int) ≤ x1) ∧ (x1 ≤ (3 : Int)))) (h2 : (x2 = (3 : Int))) (h3 : (((x3 ≠ (0 : Int)) ∧ (x0 = x1)) ∨ ((x3 = (0 : Int)) ∧ (x0 = (x1 + (1 : Int)))))) : (((0 : Int) ≤ (x0 - (1 : Int))) ∧ ((x0 - (1 : Int)) < x2)) := by omega
theorem q_3044 {x0 : Int} (h0 : (x0 = (3 : Int))) (h1 : (((0 : Int) ≤ x0) ∧ (x0 ≤ (1000000 : Int)))) : (((0 : Int) ≤ (0 : Int)) ∧ ((0 : Int) < x0)) := by omega
theorem q_3045 {x0 : Int} (h0 : (x0 = (3 : Int))) (h1 : (((0 : Int) ≤ x0) ∧ (x0 ≤ (1000000 : Int)))) : (((0 : Int) ≤ (1 : Int)) ∧ ((1 : Int) < x0)) := by omega
theorem q_3046 {x0 : Int} (h0 : (x0 = (3 : Int))) : (((0 : Int) ≤ (2 : Int)) ∧ ((2 : Int) < x0)) := by omega
theorem q_3047 {x0 x1 : Int} (h0 : (x0 = (0 : Int))) : ((x0 = (0 : Int)) ∨ ((x0 ≠ (0 : Int)) ∧ (x1 > (3 : Int)))) := by omega
theorem q_3048 : (((1 : Int) ≤ (1 : Int)) ∨ ((1 : Int) ≤ ((3 : Int) + (1 : Int)))) := by omega
theorem q_3049 {x0 : Int} (h0 : (((1 : Int) ≤ x0) ∧ (x0 ≤ (16384 : Int)))) : (((1 : Int) ≤ (x0 + (3 : Int))) ∧ ((x0 + (3 : Int)) ≤ (x0 + (3 : Int)))) := by omega
theorem q_3050 {x0 : Int} (h0 : (((1 : Int) ≤ x0) ∧ (x0 ≤ (16384 : Int)))) : (inr (x0 + (3 : Int))) := by omega
theorem q_3051 {x0 : Int} (h0 : (x0 ≤ (3 : Int))) (h1 : (((1 : Int) ≤ x0) ∧ (x0 ≤ (4 : Int)))) : (((1 : Int) ≤ x0) ∧ (x0 ≤ (3 : Int))) := by omega
theorem q_3052 {x0 : Int} (h0 : (((1 : Int) ≤ x0) ∧ (x0 ≤ (16384 : Int)))) : (inrJ x0) := by omega
theorem q_3053 {x0 : Int} (h0 : (x0 ≤ (3 : Int))) (h1 : (((1 : Int) ≤ x0) ∧ (x0 ≤ (4 : Int)))) : (((1 : Int) ≤ (x0 + (1 : Int))) ∧ ((x0 + (1 : Int)) ≤ (4 : Int))) := by omega
theorem q_3054 {x0 : Int} (h0 : (x0 ≤ (3 : Int))) : (((x0 + (1 : Int)) ≤ (1 : Int)) ∨ ((x0 + (1 : Int)) ≤ ((3 : Int) + (1 : Int)))) := by omega
theorem q_3055 {x0 : Int} (h0 : (((1 : Int) ≤ x0) ∧ (x0 ≤ (4 : Int)))) : ((1 : Int) ≤ (x0 + (1 : Int))) := by omega
theorem q_3056 {x0 : Int} (h0 : (x0 ≤ (3 : Int))) (h1 : (((1 : Int) ≤ x0) ∧ (x0 ≤ (4 : Int)))) : (inr (x0 + (1 : Int))) := by omega
theorem q_3057 {x0 : Int} : ((((3 : Int) + (1 : Int)) - (x0 + (1 : Int))) < (((3 : Int) + (1 : Int)) - x0)) := by omega
theorem q_3058 {x0 : Int} (h0 : (x0 ≤ (3 : Int))) : ((0 : Int) < (((3 : Int) + (1 : Int)) - x0)) := by omega
theorem q_3059 {x0 x1 : Int} (h0 : (x0 ≤ (3 : Int))) (h1 : (((1 : Int) ≤ x1) ∧ (x1 ≤ (16384 : Int)))) (h2 : (((1 : Int) ≤ x0) ∧ (x0 ≤ (4 : Int)))) : (((1 : Int) ≤ x0) ∧ (x0 ≤ (x1 + (3 : Int)))) := by omega
theorem q_3060 {x0 : Int} (h0 : ((15 : Int) ≤ x0)) (h1 : (inr x0)) : ((inr (x0 - (15 : Int))) ∧ ((0 : Int) ≤ (x0 - (15 : Int)))) := by omega
theorem q_3061 {x0 : Int} (h0 : ((15 : Int) ≤ x0)) (h1 : (inr x0)) : (inr ((x0 - (15 : Int)) / (255 : Int))) := by omega
theorem q_3062 {x0 : Int} : (inr ((x0 - (15 : Int)) % (255 : Int))) := by omega
theorem q_3063 {x0 x1 x2 : Int} (h0 : (((0 : Int) ≤ x0) ∧ (((0 : Int) ≤ x1) ∧ ((x0 + x1) ≤ x2)))) : ((0 : Int) ≤ x1) := by omega
theorem q_3064 {x0 x1 x2 : Int} (h0 : (((0 : Int) ≤ x0) ∧ (((0 : Int) ≤ x1) ∧ ((x0 + x1) ≤ x2)))) (h1 : (((0 : Int) ≤ x2) ∧ (x2 ≤ (1000000 : Int)))) : (inr x1) := by omega
theorem q_3065 {x0 x1 x2 : Int} (h0 : (((0 : Int) ≤ x0) ∧ (((0 : Int) ≤ x1) ∧ ((x0 + x1) ≤ x2)))) : ((x1 < (0 : Int)) ∨ (((0 : Int) ≤ x0) ∧ ((x0 + x1) ≤ x2))) := by omega
theorem q_3066 {x0 x1 : Int} (h0 : (((0 : Int) ≤ x0) ∧ ((x0 ≤ x1) ∧ ((x1 ≤ (65536 : Int)) ∧ (x0 ≤ (16384 : Int)))))) : (((0 : Int) ≤ x0) ∧ (x0 ≤ x0)) := by omega
theorem q_3067 {x0 : Int} (h0 : (x0 = (4 : Int))) : (((1 : Int) ≤ x0) ∧ (x0 ≤ (8 : Int))) := by omega
theorem q_3068 {x0 x1 : Int} (h0 : (((0 : Int) ≤ x0) ∧ ((x0 ≤ x1) ∧ ((x1 ≤ (65536 : Int)) ∧ (x0 ≤ (16384 : Int)))))) : (inr x0) := by omega
theorem q_3069 {x0 x1 x2 x3 : Int} (h0 : (((0 : Int) ≤ x0) ∧ ((x0 ≤ x1) ∧ (x1 ≤ (16384 : Int))))) (h1 : ((x0 ≤ x2) ∧ ((x2 ≤ x3) ∧ (x3 ≤ (16384 : Int))))) : (((0 : Int) ≤ x2) ∧ ((x2 ≤ x3) ∧ (x3 ≤ (16384 : Int)))) := by omega
theorem q_3070 {x0 x1 x2 : Int} (h0 : (x0 = (4 : Int))) (h1 : (x1 < (x2 + x0))) : (((x1 - (5 : Int)) ≤ x1) ∧ (((x1 - (12 : Int)) < x1) ∧ ((x1 - (12 : Int)) < x2))) := by omega
theorem q_3071 {x0 x1 : Int} (h0 : (((0 : Int) ≤ x0) ∧ (x0 ≤ x1))) : (((0 : Int) ≤ x0) ∧ ((x0 ≤ x1) ∧ (x1 ≤ x1))) := by omega
theorem q_3072 {x0 x1 : Int} (h0 : (((0 : Int) ≤ x0) ∧ ((x0 ≤ x1) ∧ ((x1 ≤ (65536 : Int)) ∧ (x0 ≤ (16384 : Int)))))) : (inr (x0 - (12 : Int))) := by omega
theorem q_3073 {x0 x1 : Int} (h0 : (((0 : Int) ≤ x0) ∧ ((x0 ≤ x1) ∧ ((x1 ≤ (65536 : Int)) ∧ (x0 ≤ (16384 : Int)))))) : (inr (x0 - (5 : Int))) := by omega
theorem q_3074 {x0 x1 x2 x3 : Int} (h0 : (((0 : Int) ≤ x0) ∧ ((x0 ≤ x1) ∧ (x0 ≤ (x2 - x3))))) (h1 : (((-(2147483648 : Int)) ≤ x0) ∧ (x0 ≤ (2147483647 : Int)))) : (inr x0) := by omega
theorem q_3075 {x0 x1 x2 x3 x4 : Int} (h0 : (x0 ≤ x1)) (h1 : ((x1 ≤ (0 : Int)) ∨ (x1 ≤ x0))) (h2 : (((0 : Int) ≤ x0) ∧ ((x0 ≤ x2) ∧ (x0 ≤ (x3 - x4))))) : (x1 = x0) := by omega
theorem q_3076 {x0 x1 : Int} (h0 : (((0 : Int) ≤ x0) ∧ ((x0 ≤ x1) ∧ ((x1 ≤ (65536 : Int)) ∧ (x0 ≤ (16384 : Int)))))) : (((0 : Int) ≤ x0) ∧ ((x0 ≤ x1) ∧ (x1 ≤ (65536 : Int)))) := by omega
theorem q_3077 {x0 x1 x2 : Int} (h0 : (((0 : Int) ≤ x0) ∧ (x0 ≤ (x1 - x2)))) (h1 : (((-(2147483648 : Int)) ≤ x0) ∧ (x0 ≤ (2147483647 : Int)))) : (inr x0) := by omega
theorem q_3078 {x0 x1 x2 x3 : Int} (h0 : (((0 : Int) ≤ x0) ∧ ((x0 ≤ x1) ∧ (x1 ≤ (16384 : Int))))) (h1 : ((x0 ≤ x2) ∧ ((x2 ≤ x3) ∧ (x3 ≤ (16384 : Int))))) : (((0 : Int) ≤ x2) ∧ ((x0 ≤ x2) ∧ ((x2 ≤ x3) ∧ (x3 ≤ (16384 : Int))))) := by omega
theorem q_3079 {x0 x1 x2 x3 x4 x5 x6 x7 : Int} (h0 : (x0 < x1)) (h1 : ((0 : Int) ≤ x0)) (h2 : ((x2 = x3) ∧ ((x4 = x3) ∧ ((x3 ≤ (65536 : Int)) ∧ (((x3 = (0 : Int)) ∨ ((64 : Int) ≤ x3)) ∧ (x5 = (0 : Int))))))) (h3 : (((0 : Int) ≤ x1) ∧ ((x1 ≤ x3) ∧ (x1 ≤ (x6 - x7))))) : (((0 : Int) ≤ x0) ∧ (x0 < x2)) := by omega
theorem q_3080 {x0 x1 x2 x3 x4 : Int} (h0 : (x0 < x1)) (h1 : ((0 : Int) ≤ x0)) (h2 : (((0 : Int) ≤ x1) ∧ ((x1 ≤ x2) ∧ (x1 ≤ (x3 - x4))))) : (((0 : Int) ≤ x0) ∧ (x0 < x2)) := by omega
theorem q_3081 {x0 x1 x2 x3 x4 x5 x6 x7 : Int} (h0 : (x0 < x1)) (h1 : ((0 : Int) ≤ x0)) (h2 : ((x2 = x3) ∧ ((x4 = x3) ∧ ((x3 ≤ (65536 : Int)) ∧ (((x3 = (0 : Int)) ∨ ((64 : Int) ≤ x3)) ∧ (x5 = (0 : Int))))))) (h3 : (((0 : Int) ≤ x1) ∧ ((x1 ≤ x3) ∧ (x1 ≤ (x6 - x7))))) : (((0 : Int) ≤ x0) ∧ (x0 < x4)) := by omega
theorem q_3082 {x0 x1 x2 x3 x4 : Int} (h0 : (x0 < x1)) (h1 : ((0 : Int) ≤ x0)) (h2 : (((0 : Int) ≤ x1) ∧ ((x1 ≤ x2) ∧ (x1 ≤ (x3 - x4))))) (h3 : (((0 : Int) ≤ x2) ∧ (x2 ≤ (1000000 : Int)))) : (inr (x0 + (1 : Int))) := by omega
theorem q_3083 {x0 : Int} (h0 : (x0 = (10 : Int))) (h1 : (((0 : Int) ≤ x0) ∧ (x0 ≤ (1000000 : Int)))) : (((0 : Int) ≤ (0 : Int)) ∧ ((0 : Int) < x0)) := by omega
theorem q_3084 {x0 x1 x2 x3 : Int} (h0 : ((x0 = x1) ∧ ((x2 = (4 : Int)) ∧ (x3 = (65535 : Int))))) : (x3 = (65535 : Int)) := by omega
theorem q_3085 {x0 x1 : Int} (h0 : (x0 ≤ (16384 : Int))) (h1 : (x1 = (0 : Int))) (h2 : (((0 : Int) ≤ x0) ∧ (x0 ≤ (1000000 : Int)))) : (((0 : Int) ≤ x1) ∧ ((x1 ≤ x0) ∧ (x0 ≤ (16384 : Int)))) := by omega
theorem q_3086 {x0 x1 x2 x3 x4 x5 : Int} (h0 : (((0 : Int) ≤ x0) ∧ ((x0 ≤ x1) ∧ (x1 ≤ (65536 : Int))))) (h1 : (((0 : Int) ≤ x2) ∧ ((x2 ≤ x3) ∧ (x3 ≤ (65536 : Int))))) (h2 : (x4 = x2)) (h3 : (((x5 = (x4 + x0)) ∧ ((0 : Int) ≤ x0)) ∨ ((x5 = x4) ∧ ((x0 < (0 : Int)) ∨ ((65536 : Int) < (x4 + x0)))))) : (((0 : Int) ≤ x2) ∧ (x2 ≤ x5)) := by omega
theorem q_3087 {x0 x1 x2 x3 : Int} (h0 : ((x0 = x1) ∧ ((x2 = (4 : Int)) ∧ (x3 = (65535 : Int))))) : (x2 = (4 : Int)) := by omega
theorem q_3088 {x0 x1 x2 x3 x4 x5 : Int} (h0 : (((0 : Int) ≤ x0) ∧ ((x0 ≤ x1) ∧ (x1 ≤ (65536 : Int))))) (h1 : ((x2 + x0) ≤ (16384 : Int))) (h2 : (x3 = x2)) (h3 : (((0 : Int) ≤ x4) ∧ ((x4 ≤ x5) ∧ (x5 ≤ (65536 : Int))))) (h4 : (((x4 = (x3 + x0)) ∧ ((0 : Int) ≤ x0)) ∨ ((x4 = x3) ∧ ((x0 < (0 : Int)) ∨ ((65536 : Int) < (x3 + x0)))))) : (((0 : Int) ≤ x4) ∧ ((x4 ≤ x5) ∧ ((x5 ≤ (65536 : Int)) ∧ (x4 ≤ (16384 : Int))))) := by omega
theorem q_3089 {x0 x1 x2 : Int} (h0 : (((0 : Int) ≤ x0) ∧ ((x1 ≤ x0) ∧ ((x0 ≤ x2) ∧ (x2 ≤ (16384 : Int)))))) : (x2 ≤ (16384 : Int)) := by omega
theorem q_3090 {x0 : Int} (h0 : (x0 = (2048 : Int))) : ((x0 = (0 : Int)) ∨ (x0 = (2048 : Int))) := by omega
theorem q_3091 {x0 x1 x2 x3 : Int} (h0 : (x0 < x1)) (h1 : (((0 : Int) ≤ x2) ∧ ((x2 ≤ x1) ∧ ((x1 ≤ x3) ∧ (x3 ≤ (65536 : Int)))))) (h2 : (x2 ≤ x0)) : (((0 : Int) ≤ x0) ∧ (x0 < x3)) := by omega
theorem q_3092 {x0 x1 x2 x3 : Int} (h0 : ((255 : Int) ≤ (x0 % (256 : Int)))) (h1 : (((0 : Int) ≤ x1) ∧ (x1 ≤ ((15 : Int) + ((255 : Int) * (x2 - x3)))))) : (((0 : Int) ≤ (x1 + (x0 % (256 : Int)))) ∧ ((x1 + (x0 % (256 : Int))) ≤ ((15 : Int) + ((255 : Int) * ((x2 + (1 : Int)) - x3))))) := by omega
theorem q_3093 {x0 x1 x2 : Int} (h0 : (((0 : Int) ≤ x0) ∧ (x0 ≤ ((15 : Int) + ((255 : Int) * (x1 - x2)))))) : (x2 ≤ (x1 + (1 : Int))) := by omega
theorem q_3094 {x0 x1 x2 x3 : Int} (h0 : (x0 < x1)) (h1 : (((0 : Int) ≤ x2) ∧ ((x2 ≤ x1) ∧ ((x1 ≤ x3) ∧ (x3 ≤ (65536 : Int)))))) (h2 : (inr x0)) : (inr (x0 + (1 : Int))) := by omega
theorem q_3095 {x0 x1 x2 x3 : Int} (h0 : (x0 < x1)) (h1 : (((0 : Int) ≤ x2) ∧ (x2 ≤ ((15 : Int) + ((255 : Int) * (x0 - x3)))))) : (((x0 + (1 : Int)) = (-(1 : Int))) ∨ ((x3 ≤ (x0 + (1 : Int))) ∧ ((x0 + (1 : Int)) ≤ x1))) := by omega
theorem q_3096 {x0 : Int} (h0 : (x0 < (15 : Int))) (h1 : (((0 : Int) ≤ x0) ∧ (x0 ≤ (15 : Int)))) : (((0 : Int) ≤ x0) ∧ (x0 ≤ (17000000 : Int))) := by omega
theorem q_3097 {x0 x1 x2 : Int} (h0 : (((0 : Int) ≤ x0) ∧ ((x0 ≤ x1) ∧ ((x1 ≤ x2) ∧ (x2 ≤ (65536 : Int)))))) : ((x0 = (-(1 : Int))) ∨ ((x0 ≤ x0) ∧ (x0 ≤ x1))) := by omega
theorem q_3098 {x0 x1 x2 : Int} (h0 : ((x0 = (0 : Int)) ∧ (x1 ≤ x2))) : (x0 = (0 : Int)) := by omega
theorem q_3099 {x0 x1 x2 : Int} (h0 : ((x0 = (0 : Int)) ∧ (x1 ≤ x2))) : (x1 ≤ x2) := by omega
theorem q_3100 {x0 x1 x2 : Int} (h0 : (((0 : Int) ≤ x0) ∧ ((x0 ≤ x1) ∧ ((x1 ≤ x2) ∧ (x2 ≤ (65536 : Int)))))) : (((0 : Int) ≤ x0) ∧ (x0 ≤ x1)) := by omega
theorem q_3101 {x0 x1 : Int} : ((x0 ≤ x0) ∨ (x0 ≤ (x1 + (1 : Int)))) := by omega
theorem q_3102 {x0 x1 x2 x3 : Int} (h0 : (x0 < x1)) (h1 : (((0 : Int) ≤ x2) ∧ ((x2 ≤ x1) ∧ ((x1 ≤ x3) ∧ (x3 ≤ (65536 : Int)))))) (h2 : (((0 : Int) ≤ x0) ∧ (x0 ≤ x1))) : (((0 : Int) ≤ x0) ∧ (x0 < x3)) := by omega
theorem q_3103 {x0 x1 x2 x3 : Int} (h0 : (x0 < x1)) (h1 : (((0 : Int) ≤ x2) ∧ ((x2 ≤ x1) ∧ ((x1 ≤ x3) ∧ (x3 ≤ (65536 : Int)))))) (h2 : (((0 : Int) ≤ x0) ∧ (x0 ≤ x1))) : (((0 : Int) ≤ (x0 + (1 : Int))) ∧ (((x0 + (1 : Int)) ≤ x1) ∧ ((x1 ≤ x3) ∧ (x3 ≤ (65536 : Int))))) := by omega
theorem q_3104 {x0 x1 : Int} (h0 : (x0 = ((x1 % (256 : Int)) / (16 : Int)))) : (((0 : Int) ≤ x0) ∧ (x0 ≤ (15 : Int))) := by omega
theorem q_3105 {x0 x1 x2 x3 : Int} (h0 : (x0 < x1)) (h1 : (((0 : Int) ≤ x2) ∧ ((x2 ≤ x1) ∧ ((x1 ≤ x3) ∧ (x3 ≤ (65536 : Int)))))) (h2 : (((0 : Int) ≤ x0) ∧ (x0 ≤ x1))) : (inr (x0 + (1 : Int))) := by omega
theorem q_3106 {x0 x1 x2 : Int} (h0 : (((0 : Int) ≤ x0) ∧ (x0 ≤ (65536 : Int)))) (h1 : (((0 : Int) ≤ x1) ∧ ((x1 ≤ x2) ∧ (x2 ≤ (65536 : Int))))) (h2 : (x1 ≤ x0)) : (inr (x0 - x1)) := by omega
theorem q_3107 {x0 x1 x2 x3 x4 : Int} (h0 : (x0 < x1)) (h1 : (((0 : Int) ≤ x2) ∧ ((x2 ≤ x1) ∧ ((x1 ≤ x3) ∧ (x3 ≤ (65536 : Int)))))) (h2 : (((0 : Int) ≤ x0) ∧ (x0 ≤ x1))) (h3 : (inr x4)) (h4 : ((x4 = (-(1 : Int))) ∨ (((x0 + (1 : Int)) ≤ x4) ∧ (x4 ≤ x1)))) : (inr (x1 - x4)) := by omega
theorem q_3108 {x0 x1 x2 : Int} (h0 : (x0 = (1 : Int))) : ((x0 ≠ (0 : Int)) ∨ (x1 = x2)) := by omega
theorem q_3109 {x0 x1 x2 : Int} (h0 : (x0 ≤ x1)) : ((x0 ≤ x1) ∨ (x0 = x2)) := by omega
theorem q_3110 {x0 : Int} (h0 : (x0 = (1 : Int))) : (((0 : Int) ≤ x0) ∧ (x0 ≤ (3 : Int))) := by omega
theorem q_3111 {x0 x1 x2 x3 x4 : Int} (h0 : (x0 < x1)) (h1 : (x2 < (0 : Int))) (h2 : ((0 : Int) ≤ x2)) (h3 : (((0 : Int) ≤ x3) ∧ ((x3 ≤ x1) ∧ ((x1 ≤ x4) ∧ (x4 ≤ (65536 : Int)))))) (h4 : (((0 : Int) ≤ x0) ∧ (x0 ≤ x1))) : (inr (x1 - x2)) := by omega
theorem q_3112 {x0 x1 x2 x3 x4 x5 x6 x7 x8 : Int} (h0 : (x0 < x1)) (h1 : (x2 < (0 : Int))) (h2 : ((0 : Int) ≤ x2)) (h3 : ((((x3 - x4) < (x1 - x2)) ∧ (x5 = (x3 - x4))) ∨ ((¬ ((x3 - x4) < (x1 - x2))) ∧ (x5 = (x1 - x2))))) (h4 : (((0 : Int) ≤ x6) ∧ ((x6 ≤ x1) ∧ ((x1 ≤ x7) ∧ (x7 ≤ (65536 : Int)))))) (h5 : (((0 : Int) ≤ x3) ∧ (x3 ≤ (65536 : Int)))) (h6 : (((0 : Int) ≤ x0) ∧ (x0 ≤ x1))) (h7 : (((0 : Int) ≤ x4) ∧ ((x4 ≤ x8) ∧ (x8 ≤ (65536 : Int))))) (h8 : (x4 ≤ x3)) : (inr x5) := by omega
theorem q_3113 {x0 x1 : Int} (h0 : (x0 < (0 : Int))) (h1 : ((0 : Int) ≤ x0)) : (inr (x0 + x1)) := by omega
theorem q_3114 {x0 x1 x2 : Int} (h0 : (x0 = (3 : Int))) : ((x0 ≠ (0 : Int)) ∨ (x1 = x2)) := by omega
theorem q_3115 {x0 : Int} (h0 : (x0 = (3 : Int))) : (((0 : Int) ≤ x0) ∧ (x0 ≤ (3 : Int))) := by omega
theorem q_3116 {x0 x1 x2 x3 x4 x5 x6 x7 x8 : Int} (h0 : (x0 < x1)) (h1 : ((0 : Int) ≤ x2)) (h2 : ((((x3 - x4) < (x1 - x2)) ∧ (x5 = (x3 - x4))) ∨ ((¬ ((x3 - x4) < (x1 - x2))) ∧ (x5 = (x1 - x2))))) (h3 : (((0 : Int) ≤ x6) ∧ ((x6 ≤ x1) ∧ ((x1 ≤ x7) ∧ (x7 ≤ (65536 : Int)))))) (h4 : (((0 : Int) ≤ x3) ∧ (x3 ≤ (65536 : Int)))) (h5 : (((0 : Int) ≤ x0) ∧ (x0 ≤ x1))) (h6 : (((0 : Int) ≤ x4) ∧ ((x4 ≤ x8) ∧ (x8 ≤ (65536 : Int))))) (h7 : (x4 ≤ x3)) (h8 : (inr x2)) : (inr x5) := by omega
theorem q_3117 {x0 : Int} (h0 : (((0 : Int) ≤ x0) ∧ (x0 ≤ (17000000 : Int)))) (h1 : (((-(2147483648 : Int)) ≤ x0) ∧ (x0 ≤ (2147483647 : Int)))) : (inr x0) := by omega
theorem q_3118 {x0 x1 x2 x3 x4 x5 x6 x7 : Int} (h0 : ((0 : Int) ≤ x0)) (h1 : (x1 ≤ x2)) (h2 : ((((x3 - x4) < (x5 - x0)) ∧ (x2 = (x3 - x4))) ∨ ((¬ ((x3 - x4) < (x5 - x0))) ∧ (x2 = (x5 - x0))))) (h3 : (((0 : Int) ≤ x6) ∧ ((x6 ≤ x5) ∧ ((x5 ≤ x7) ∧ (x7 ≤ (65536 : Int)))))) : ((x1 < (0 : Int)) ∨ (((0 : Int) ≤ x0) ∧ ((x0 + x1) ≤ x7))) := by omega
theorem q_3119 {x0 x1 x2 x3 x4 x5 x6 x7 x8 : Int} (h0 : ((0 : Int) ≤ x0)) (h1 : (x1 ≤ x2)) (h2 : ((((x3 - x4) < (x5 - x0)) ∧ (x2 = (x3 - x4))) ∨ ((¬ ((x3 - x4) < (x5 - x0))) ∧ (x2 = (x5 - x0))))) (h3 : (((0 : Int) ≤ x6) ∧ ((x6 ≤ x5) ∧ ((x5 ≤ x7) ∧ (x7 ≤ (65536 : Int)))))) (h4 : (((0 : Int) ≤ x1) ∧ (x1 ≤ (17000000 : Int)))) (h5 : (((x8 = (x4 + x1)) ∧ ((0 : Int) ≤ x1)) ∨ ((x8 = x4) ∧ ((x1 < (0 : Int)) ∨ ((65536 : Int) < (x4 + x1)))))) : (inr (x0 + x1)) := by omega
theorem q_3120 {x0 x1 x2 x3 x4 x5 x6 x7 x8 : Int} (h0 : ((0 : Int) ≤ x0)) (h1 : (x1 ≤ x2)) (h2 : ((((x3 - x4) < (x5 - x0)) ∧ (x2 = (x3 - x4))) ∨ ((¬ ((x3 - x4) < (x5 - x0))) ∧ (x2 = (x5 - x0))))) (h3 : (((0 : Int) ≤ x6) ∧ ((x6 ≤ x5) ∧ ((x5 ≤ x7) ∧ (x7 ≤ (65536 : Int)))))) (h4 : (((0 : Int) ≤ x1) ∧ (x1 ≤ (17000000 : Int)))) (h5 : (((x8 = (x4 + x1)) ∧ ((0 : Int) ≤ x1)) ∨ ((x8 = x4) ∧ ((x1 < (0 : Int)) ∨ ((65536 : Int) < (x4 + x1)))))) : (inr (x5 - (x0 + x1))) := by omega
theorem q_3121 {x0 x1 x2 x3 x4 : Int} (h0 : ((0 : Int) ≤ x0)) (h1 : ((2 : Int) ≤ (x1 - (x0 + x2)))) (h2 : (((0 : Int) ≤ x3) ∧ ((x3 ≤ x1) ∧ ((x1 ≤ x4) ∧ (x4 ≤ (65536 : Int)))))) (h3 : (((0 : Int) ≤ x2) ∧ (x2 ≤ (17000000 : Int)))) : (((2 : Int) ≤ (0 : Int)) ∨ (((0 : Int) ≤ (x0 + x2)) ∧ (((x0 + x2) + (2 : Int)) ≤ x4))) := by omega
theorem q_3122 {x0 x1 x2 x3 x4 : Int} (h0 : ((0 : Int) ≤ x0)) (h1 : ((2 : Int) ≤ (x1 - (x0 + x2)))) (h2 : (((0 : Int) ≤ x3) ∧ ((x3 ≤ x1) ∧ ((x1 ≤ x4) ∧ (x4 ≤ (65536 : Int)))))) (h3 : (((0 : Int) ≤ x2) ∧ (x2 ≤ (17000000 : Int)))) : (inr (x0 + x2)) := by omega
theorem q_3123 {x0 x1 x2 : Int} (h0 : (x0 = (2 : Int))) : ((x0 ≠ (0 : Int)) ∨ (x1 = x2)) := by omega
theorem q_3124 {x0 x1 x2 x3 : Int} (h0 : (x0 ≤ x1)) (h1 : (((0 : Int) ≤ x2) ∧ (x2 ≤ (17000000 : Int)))) (h2 : (((x3 = (x1 + x2)) ∧ ((0 : Int) ≤ x2)) ∨ ((x3 = x1) ∧ ((x2 < (0 : Int)) ∨ ((65536 : Int) < (x1 + x2)))))) : (x0 ≤ x3) := by omega
theorem q_3125 {x0 x1 x2 x3 x4 x5 : Int} (h0 : (inr x0)) (h1 : (((0 : Int) ≤ x1) ∧ ((x1 ≤ x2) ∧ (x2 ≤ (65536 : Int))))) (h2 : (((0 : Int) ≤ x0) ∧ (x0 ≤ x3))) (h3 : (((0 : Int) ≤ x4) ∧ ((x4 ≤ x5) ∧ (x5 ≤ (65536 : Int))))) : (inr ((x4 - x0) + x1)) := by omega
theorem q_3126 {x0 x1 x2 x3 x4 : Int} (h0 : ((0 : Int) ≤ x0)) (h1 : ((2 : Int) ≤ (x1 - (x0 + x2)))) (h2 : (((0 : Int) ≤ x3) ∧ ((x3 ≤ x1) ∧ ((x1 ≤ x4) ∧ (x4 ≤ (65536 : Int)))))) (h3 : (((0 : Int) ≤ x2) ∧ (x2 ≤ (17000000 : Int)))) : (((0 : Int) ≤ ((x0 + x2) + (2 : Int))) ∧ ((((x0 + x2) + (2 : Int)) ≤ x1) ∧ ((x1 ≤ x4) ∧ (x4 ≤ (65536 : Int))))) := by omega
theorem q_3127 {x0 x1 : Int} (h0 : (x0 = ((x1 % (256 : Int)) % (16 : Int)))) : (((0 : Int) ≤ x0) ∧ (x0 ≤ (15 : Int))) := by omega
theorem q_3128 {x0 x1 x2 x3 x4 : Int} (h0 : ((0 : Int) ≤ x0)) (h1 : ((2 : Int) ≤ (x1 - (x0 + x2)))) (h2 : (((0 : Int) ≤ x3) ∧ ((x3 ≤ x1) ∧ ((x1 ≤ x4) ∧ (x4 ≤ (65536 : Int)))))) (h3 : (((0 : Int) ≤ x2) ∧ (x2 ≤ (17000000 : Int)))) : (inr ((x0 + x2) + (2 : Int))) := by omega
theorem q_3129 {x0 x1 x2 : Int} (h0 : (((0 : Int) ≤ x0) ∧ (x0 ≤ (65536 : Int)))) (h1 : (((0 : Int) ≤ x1) ∧ ((x1 ≤ x2) ∧ (x2 ≤ (65536 : Int))))) : (inr (x0 - x1)) := by omega
theorem q_3130 {x0 x1 x2 x3 x4 : Int} (h0 : (((0 : Int) ≤ x0) ∧ (x0 ≤ x1))) (h1 : (x1 ≤ x2)) (h2 : (((0 : Int) ≤ x3) ∧ (x3 ≤ (17000000 : Int)))) (h3 : (((x4 = (x2 + x3)) ∧ ((0 : Int) ≤ x3)) ∨ ((x4 = x2) ∧ ((x3 < (0 : Int)) ∨ ((65536 : Int) < (x2 + x3)))))) : (((0 : Int) ≤ x0) ∧ (x0 ≤ x4)) := by omega
theorem q_3131 {x0 x1 x2 x3 : Int} (h0 : ((x0 + (4 : Int)) ≤ (x1 - x2))) (h1 : (((0 : Int) ≤ x1) ∧ (x1 ≤ (65536 : Int)))) (h2 : (((0 : Int) ≤ x2) ∧ ((x2 ≤ x3) ∧ (x3 ≤ (65536 : Int))))) (h3 : (((0 : Int) ≤ x0) ∧ (x0 ≤ (17000000 : Int)))) : (inr (x0 + (4 : Int))) := by omega
theorem q_3132 {x0 x1 x2 x3 x4 x5 : Int} (h0 : ((0 : Int) ≤ x0)) (h1 : ((0 : Int) ≤ x1)) (h2 : (inr x2)) (h3 : (x2 ≤ x3)) (h4 : ((x0 = (-(1 : Int))) ∨ (((x3 + (1 : Int)) ≤ x0) ∧ (x0 ≤ x4)))) (h5 : (((0 : Int) ≤ x5) ∧ (x5 ≤ (17000000 : Int)))) (h6 : ((x1 = (-(1 : Int))) ∨ ((((x0 + x5) + (2 : Int)) ≤ x1) ∧ (x1 ≤ x4)))) : ((x2 + (1 : Int)) ≤ x1) := by omega
theorem q_3133 {x0 x1 x2 x3 x4 : Int} (h0 : ((x0 + (4 : Int)) ≤ (x1 - x2))) (h1 : (((0 : Int) ≤ x1) ∧ (x1 ≤ (65536 : Int)))) (h2 : (((0 : Int) ≤ x0) ∧ (x0 ≤ (17000000 : Int)))) (h3 : (((0 : Int) ≤ x3) ∧ ((x3 ≤ x4) ∧ (x4 ≤ (65536 : Int))))) (h4 : (((x3 = (x2 + (x0 + (4 : Int)))) ∧ ((0 : Int) ≤ (x0 + (4 : Int)))) ∨ ((x3 = x2) ∧ (((x0 + (4 : Int)) < (0 : Int)) ∨ ((65536 : Int) < (x2 + (x0 + (4 : Int)))))))) : (x3 ≤ x1) := by omega
theorem q_3134 {x0 x1 x2 x3 x4 : Int} (h0 : (x0 < x1)) (h1 : ((0 : Int) ≤ x2)) (h2 : (((0 : Int) ≤ x0) ∧ (x0 ≤ x1))) (h3 : ((x2 = (-(1 : Int))) ∨ ((((x3 + x4) + (2 : Int)) ≤ x2) ∧ (x2 ≤ x1)))) : (((0 : Int) ≤ x2) ∧ (x2 ≤ x1)) := by omega
theorem q_3135 {x0 x1 x2 : Int} (h0 : (x0 ≤ x1)) : (((x0 + (1 : Int)) ≤ x2) ∨ ((x0 + (1 : Int)) ≤ (x1 + (1 : Int)))) := by omega
theorem q_3136 {x0 x1 x2 x3 : Int} (h0 : (x0 ≤ x1)) (h1 : (((0 : Int) ≤ x2) ∧ ((x2 ≤ x1) ∧ ((x1 ≤ x3) ∧ (x3 ≤ (65536 : Int)))))) (h2 : (inr x0)) : (inr (x0 + (1 : Int))) := by omega
theorem q_3137 {x0 : Int} : (((0 : Int) ≠ (0 : Int)) ∨ (x0 = x0)) := by omega
theorem q_3138 {x0 x1 x2 x3 x4 : Int} (h0 : (x0 < x1)) (h1 : ((0 : Int) ≤ x2)) (h2 : (((0 : Int) ≤ x3) ∧ ((x3 ≤ x1) ∧ ((x1 ≤ x4) ∧ (x4 ≤ (65536 : Int)))))) (h3 : (((0 : Int) ≤ x0) ∧ (x0 ≤ x1))) (h4 : (inr x2)) : (inr (x1 - x2)) := by omega
theorem q_3139 {x0 x1 x2 x3 x4 x5 x6 : Int} (h0 : (x0 < x1)) (h1 : (x2 < x3)) (h2 : ((((x4 - x5) < (x1 - x6)) ∧ (x2 = (x4 - x5))) ∨ ((¬ ((x4 - x5) < (x1 - x6))) ∧ (x2 = (x1 - x6))))) (h3 : (((0 : Int) ≤ x0) ∧ (x0 ≤ x1))) (h4 : (x5 ≤ x4)) (h5 : (inr x6)) (h6 : (((-(2147483648 : Int)) ≤ x3) ∧ (x3 ≤ (2147483647 : Int)))) : (inr x2) := by omega
theorem q_3140 {x0 x1 x2 x3 x4 x5 x6 x7 : Int} (h0 : (x0 < x1)) (h1 : ((0 : Int) ≤ x2)) (h2 : ((((x3 - x4) < (x1 - x2)) ∧ (x5 = (x3 - x4))) ∨ ((¬ ((x3 - x4) < (x1 - x2))) ∧ (x5 = (x1 - x2))))) (h3 : (((0 : Int) ≤ x6) ∧ ((x6 ≤ x1) ∧ ((x1 ≤ x7) ∧ (x7 ≤ (65536 : Int)))))) (h4 : (((0 : Int) ≤ x0) ∧ (x0 ≤ x1))) (h5 : (x4 ≤ x3)) : (inr (x2 + x5)) := by omega
theorem q_3141 {x0 x1 : Int} : ((x0 = x0) ∧ ((x1 = x1) ∧ (x0 = x0))) := by omega
theorem q_3142 {x0 x1 x2 x3 x4 x5 x6 : Int} (h0 : (((0 : Int) ≤ x0) ∧ (x0 ≤ (65536 : Int)))) (h1 : ((x1 = (0 : Int)) ∧ (x2 = (0 : Int)))) (h2 : ((x3 = x4) ∧ ((x5 = x0) ∧ (x6 = x4)))) : ((x2 = (0 : Int)) ∧ (x1 ≤ x5)) := by omega
theorem q_3143 {x0 x1 x2 x3 x4 : Int} (h0 : (((0 : Int) ≤ x0) ∧ (x0 ≤ (65536 : Int)))) (h1 : ((x1 = x2) ∧ ((x3 = x0) ∧ (x4 = x2)))) : (((0 : Int) ≤ x3) ∧ (x3 ≤ (65536 : Int))) := by omega
theorem q_3144 {x0 x1 x2 x3 x4 x5 : Int} (h0 : (((0 : Int) ≤ x0) ∧ ((x0 ≤ x1) ∧ (x1 ≤ (65536 : Int))))) (h1 : ((x2 = x0) ∧ ((x3 = x4) ∧ (x5 = x0)))) : (((0 : Int) ≤ (0 : Int)) ∧ (((0 : Int) ≤ x2) ∧ ((x2 ≤ x1) ∧ (x1 ≤ (65536 : Int))))) := by omega
theorem q_3145 {x0 : Int} (h0 : (((0 : Int) ≤ x0) ∧ (x0 ≤ (65536 : Int)))) : ((inr (x0 + (63 : Int))) ∧ ((0 : Int) ≤ (x0 + (63 : Int)))) := by omega
theorem q_3146 {x0 : Int} (h0 : (((0 : Int) ≤ x0) ∧ (x0 ≤ (65536 : Int)))) : (((0 : Int) ≤ ((3 : Int) * ((x0 + (63 : Int)) / (64 : Int)))) ∧ (((3 : Int) * ((x0 + (63 : Int)) / (64 : Int))) ≤ (4000 : Int))) := by omega
theorem q_3147 {x0 : Int} (h0 : (((0 : Int) ≤ x0) ∧ (x0 ≤ (65536 : Int)))) : (inr ((3 : Int) * ((x0 + (63 : Int)) / (64 : Int)))) := by omega
theorem q_3148 {x0 : Int} (h0 : ((4 : Int) ≤ x0)) (h1 : (((0 : Int) ≤ x0) ∧ (x0 ≤ (65536 : Int)))) : (inr (x0 - (11 : Int))) := by omega
theorem q_3149 {x0 x1 : Int} (h0 : ((4 : Int) ≤ x0)) (h1 : ((((0 : Int) < (x0 - (11 : Int))) ∧ (x1 = (x0 - (11 : Int)))) ∨ ((¬ ((0 : Int) < (x0 - (11 : Int)))) ∧ (x1 = (0 : Int))))) (h2 : (((0 : Int) ≤ x0) ∧ (x0 ≤ (65536 : Int)))) : ((inr (x1 + (63 : Int))) ∧ ((0 : Int) ≤ (x1 + (63 : Int)))) := by omega
theorem q_3150 {x0 x1 : Int} (h0 : ((4 : Int) ≤ x0)) (h1 : ((((0 : Int) < (x0 - (11 : Int))) ∧ (x1 = (x0 - (11 : Int)))) ∨ ((¬ ((0 : Int) < (x0 - (11 : Int)))) ∧ (x1 = (0 : Int))))) (h2 : (((0 : Int) ≤ x0) ∧ (x0 ≤ (65536 : Int)))) : (inr ((2 : Int) + ((3 : Int) * ((x1 + (63 : Int)) / (64 : Int))))) := by omega
theorem q_3151 {x0 : Int} (h0 : ((4 : Int) ≤ x0)) (h1 : (((0 : Int) ≤ x0) ∧ (x0 ≤ (65536 : Int)))) : (inr ((3 : Int) * ((x0 + (63 : Int)) / (64 : Int)))) := by omega
theorem q_3152 {x0 x1 x2 : Int} (h0 : ((4 : Int) ≤ x0)) (h1 : ((((0 : Int) < (x0 - (11 : Int))) ∧ (x1 = (x0 - (11 : Int)))) ∨ ((¬ ((0 : Int) < (x0 - (11 : Int)))) ∧ (x1 = (0 : Int))))) (h2 : (((((2 : Int) + ((3 : Int) * ((x1 + (63 : Int)) / (64 : Int)))) < ((3 : Int) * ((x0 + (63 : Int)) / (64 : Int)))) ∧ (x2 = ((2 : Int) + ((3 : Int) * ((x1 + (63 : Int)) / (64 : Int)))))) ∨ ((¬ (((2 : Int) + ((3 : Int) * ((x1 + (63 : Int)) / (64 : Int)))) < ((3 : Int) * ((x0 + (63 : Int)) / (64 : Int))))) ∧ (x2 = ((3 : Int) * ((x0 + (63 : Int)) / (64 : Int))))))) (h3 : (((0 : Int) ≤ x0) ∧ (x0 ≤ (65536 : Int)))) : (((0 : Int) ≤ x2) ∧ (x2 ≤ (4000 : Int))) := by omega
theorem q_3153 {x0 x1 x2 : Int} (h0 : ((4 : Int) ≤ x0)) (h1 : ((((0 : Int) < (x0 - (11 : Int))) ∧ (x1 = (x0 - (11 : Int)))) ∨ ((¬ ((0 : Int) < (x0 - (11 : Int)))) ∧ (x1 = (0 : Int))))) (h2 : (((((2 : Int) + ((3 : Int) * ((x1 + (63 : Int)) / (64 : Int)))) < ((3 : Int) * ((x0 + (63 : Int)) / (64 : Int)))) ∧ (x2 = ((2 : Int) + ((3 : Int) * ((x1 + (63 : Int)) / (64 : Int)))))) ∨ ((¬ (((2 : Int) + ((3 : Int) * ((x1 + (63 : Int)) / (64 : Int)))) < ((3 : Int) * ((x0 + (63 : Int)) / (64 : Int))))) ∧ (x2 = ((3 : Int) * ((x0 + (63 : Int)) / (64 : Int))))))) (h3 : (((0 : Int) ≤ x0) ∧ (x0 ≤ (65536 : Int)))) : (inr x2) := by omega
theorem q_3154 {x0 : Int} (h0 : (x0 < (4 : Int))) (h1 : (((0 : Int) ≤ x0) ∧ (x0 ≤ (65536 : Int)))) : (((0 : Int) ≤ ((3 : Int) * ((x0 + (63 : Int)) / (64 : Int)))) ∧ (((3 : Int) * ((x0 + (63 : Int)) / (64 : Int))) ≤ (4000 : Int))) := by omega
theorem q_3155 {x0 : Int} (h0 : (x0 < (4 : Int))) (h1 : (((0 : Int) ≤ x0) ∧ (x0 ≤ (65536 : Int)))) : (inr ((3 : Int) * ((x0 + (63 : Int)) / (64 : Int)))) := by omega
theorem q_3156 {x0 : Int} (h0 : (((1 : Int) ≤ x0) ∧ (x0 ≤ (65536 : Int)))) : (((0 : Int) ≤ x0) ∧ (x0 ≤ (65536 : Int))) := by omega
theorem q_3157 {x0 : Int} : ((x0 ≤ x0) ∨ ((1 : Int) ≤ x0)) := by omega
theorem q_3158 {x0 x1 : Int} (h0 : (((x0 < (64 : Int)) ∧ (x1 = x0)) ∨ ((¬ (x0 < (64 : Int))) ∧ (x1 = (64 : Int))))) (h1 : (((1 : Int) ≤ x0) ∧ (x0 ≤ (65536 : Int)))) : (inr x1) := by omega
theorem q_3159 {x0 : Int} (h0 : (((1 : Int) ≤ x0) ∧ (x0 ≤ (65536 : Int)))) : (((1 : Int) ≤ (1 : Int)) ∧ ((1 : Int) ≤ x0)) := by omega
theorem q_3160 {x0 x1 : Int} (h0 : ((1 : Int) < x0)) (h1 : (((1 : Int) ≤ x1) ∧ (x1 ≤ (65536 : Int)))) (h2 : (inr x0)) : (inr (x1 - x0)) := by omega
theorem q_3161 {x0 x1 : Int} (h0 : ((x0 = (2 : Int)) ∨ (x0 = (3 : Int)))) (h1 : (((0 : Int) ≤ x1) ∧ (x1 ≤ (4000 : Int)))) : (inr (x0 + x1)) := by omega
theorem q_3162 {x0 x1 : Int} (h0 : ((1 : Int) < x0)) : ((x1 ≤ (x0 + (-(1 : Int)))) ∨ ((1 : Int) ≤ (x0 + (-(1 : Int))))) := by omega
theorem q_3163 {x0 : Int} (h0 : ((1 : Int) < x0)) (h1 : (inr x0)) : (inr (x0 + (-(1 : Int)))) := by omega
theorem q_3164 {x0 : Int} : (((x0 + (-(1 : Int))) - (1 : Int)) < (x0 - (1 : Int))) := by omega
theorem q_3165 {x0 : Int} (h0 : ((1 : Int) < x0)) : ((0 : Int) < (x0 - (1 : Int))) := by omega
theorem q_3166 : (((3 : Int) = (2 : Int)) ∨ ((3 : Int) = (3 : Int))) := by omega
theorem q_3167 : (((2 : Int) = (2 : Int)) ∨ ((2 : Int) = (3 : Int))) := by omega
theorem q_3168 {x0 : Int} (h0 : (((0 : Int) ≤ x0) ∧ (x0 ≤ (65536 : Int)))) : ((0 : Int) ≤ x0) := by omega
theorem q_3169 {x0 : Int} (h0 : (((0 : Int) ≤ x0) ∧ (x0 ≤ (65536 : Int)))) : ((((0 : Int) = (0 : Int)) ∧ (x0 ≤ (65536 : Int))) ∨ ((((0 : Int) = (1 : Int)) ∧ (x0 ≤ (512 : Int))) ∨ (((2 : Int) ≤ (0 : Int)) ∧ (x0 ≤ (4 : Int))))) := by omega
theorem q_3170 {x0 x1 x2 : Int} (h0 : (inr x0)) (h1 : (((0 : Int) ≤ x1) ∧ (((0 : Int) ≤ x0) ∧ ((x1 + x0) ≤ x2)))) : (inr (x0 - (1 : Int))) := by omega
theorem q_3171 {x0 : Int} (h0 : ((60 : Int) ≤ (x0 - (1 : Int)))) (h1 : (inr x0)) : (inr (x0 - (1 : Int))) := by omega
theorem q_3172 {x0 : Int} (h0 : ((256 : Int) ≤ (x0 - (1 : Int)))) (h1 : (inr x0)) : (inr (x0 - (1 : Int))) := by omega
theorem q_3173 {x0 : Int} (h0 : ((256 : Int) ≤ (x0 - (1 : Int)))) (h1 : (inr x0)) : (inrJ (x0 - (1 : Int))) := by omega
theorem q_3174 {x0 : Int} (h0 : ((60 : Int) ≤ (x0 - (1 : Int)))) (h1 : ((x0 - (1 : Int)) < (256 : Int))) : (inr (x0 - (1 : Int))) := by omega
theorem q_3175 {x0 : Int} (h0 : ((60 : Int) ≤ (x0 - (1 : Int)))) (h1 : ((x0 - (1 : Int)) < (256 : Int))) : (inrJ (x0 - (1 : Int))) := by omega
theorem q_3176 {x0 : Int} : (x0 ≤ (x0 - (0 : Int))) := by omega
theorem q_3177 {x0 : Int} (h0 : (((0 : Int) ≤ x0) ∧ (x0 ≤ (65536 : Int)))) : (x0 ≤ (65536 : Int)) := by omega
theorem q_3178 {x0 : Int} (h0 : ((0 : Int) < x0)) (h1 : (x0 ≤ (65536 : Int))) : (((1 : Int) ≤ x0) ∧ (x0 ≤ (65536 : Int))) := by omega
theorem q_3179 {x0 x1 x2 x3 : Int} (h0 : (x0 ≤ (x1 - x2))) (h1 : (((1 : Int) ≤ x3) ∧ (x3 ≤ x0))) : ((x0 - x3) ≤ (x1 - (x2 + (1 : Int)))) := by omega
theorem q_3180 {x0 x1 : Int} (h0 : (x0 ≤ (65536 : Int))) (h1 : (((1 : Int) ≤ x1) ∧ (x1 ≤ x0))) : ((x0 - x1) ≤ (65536 : Int)) := by omega
theorem q_3181 {x0 x1 : Int} (h0 : (x0 ≤ (65536 : Int))) (h1 : (((1 : Int) ≤ x1) ∧ (x1 ≤ x0))) : (inr (x0 - x1)) := by omega
theorem q_3182 {x0 : Int} (h0 : (((0 : Int) ≤ x0) ∧ (x0 ≤ (65535 : Int)))) : (inrJ x0) := by omega
theorem q_3183 {x0 x1 : Int} (h0 : (((0 : Int) ≤ x0) ∧ ((x0 ≤ x1) ∧ ((x1 ≤ (65536 : Int)) ∧ (x0 ≤ (16384 : Int)))))) : (((0 : Int) ≤ x0) ∧ (x0 ≤ (65536 : Int))) := by omega
theorem q_3184 {x0 x1 x2 : Int} (h0 : (x0 = (4 : Int))) (h1 : (x1 < (x2 + x0))) : ((x1 ≤ x1) ∧ (((x1 - (4 : Int)) < x1) ∧ ((x1 - (4 : Int)) < x2))) := by omega
theorem q_3185 {x0 x1 : Int} (h0 : (((0 : Int) ≤ x0) ∧ ((x0 ≤ x1) ∧ ((x1 ≤ (65536 : Int)) ∧ (x0 ≤ (16384 : Int)))))) : (((0 : Int) ≤ (0 : Int)) ∧ (((0 : Int) ≤ x0) ∧ (x0 ≤ x0))) := by omega
theorem q_3186 {x0 x1 : Int} (h0 : (((0 : Int) ≤ x0) ∧ ((x0 ≤ x1) ∧ ((x1 ≤ (65536 : Int)) ∧ (x0 ≤ (16384 : Int)))))) : (inr (x0 - (4 : Int))) := by omega
theorem q_3187 {x0 x1 x2 : Int} (h0 : (((0 : Int) ≤ x0) ∧ ((x0 ≤ x1) ∧ (x0 ≤ (x2 - (0 : Int)))))) (h1 : (((-(2147483648 : Int)) ≤ x0) ∧ (x0 ≤ (2147483647 : Int)))) : (inr x0) := by omega
theorem q_3188 {x0 x1 x2 x3 : Int} (h0 : (x0 ≤ x1)) (h1 : ((x1 ≤ (0 : Int)) ∨ (x1 ≤ x0))) (h2 : (((0 : Int) ≤ x0) ∧ ((x0 ≤ x2) ∧ (x0 ≤ (x3 - (0 : Int)))))) : (x1 = x0) := by omega
theorem q_3189 {x0 x1 : Int} (h0 : (((0 : Int) ≤ x0) ∧ (x0 ≤ (x1 - (0 : Int))))) (h1 : (((-(2147483648 : Int)) ≤ x0) ∧ (x0 ≤ (2147483647 : Int)))) : (inr x0) := by omega
theorem q_3190 {x0 x1 x2 x3 x4 x5 x6 : Int} (h0 : (x0 < x1)) (h1 : ((0 : Int) ≤ x0)) (h2 : ((x2 = x3) ∧ ((x4 = x3) ∧ ((x3 ≤ (65536 : Int)) ∧ (((x3 = (0 : Int)) ∨ ((64 : Int) ≤ x3)) ∧ (x5 = (0 : Int))))))) (h3 : (((0 : Int) ≤ x1) ∧ ((x1 ≤ x3) ∧ (x1 ≤ (x6 - (0 : Int)))))) : (((0 : Int) ≤ x0) ∧ (x0 < x2)) := by omega
theorem q_3191 {x0 x1 x2 x3 : Int} (h0 : (x0 < x1)) (h1 : ((0 : Int) ≤ x0)) (h2 : (((0 : Int) ≤ x1) ∧ ((x1 ≤ x2) ∧ (x1 ≤ (x3 - (0 : Int)))))) : (((0 : Int) ≤ x0) ∧ (x0 < x2)) := by omega
theorem q_3192 {x0 x1 x2 x3 x4 x5 x6 : Int} (h0 : (x0 < x1)) (h1 : ((0 : Int) ≤ x0)) (h2 : ((x2 = x3) ∧ ((x4 = x3) ∧ ((x3 ≤ (65536 : Int)) ∧ (((x3 = (0 : Int)) ∨ ((64 : Int) ≤ x3)) ∧ (x5 = (0 : Int))))))) (h3 : (((0 : Int) ≤ x1) ∧ ((x1 ≤ x3) ∧ (x1 ≤ (x6 - (0 : Int)))))) : (((0 : Int) ≤ x0) ∧ (x0 < x4)) := by omega
theorem q_3193 {x0 x1 : Int} (h0 : (x0 < x1)) (h1 : ((0 : Int) ≤ x0)) (h2 : (((-(2147483648 : Int)) ≤ x1) ∧ (x1 ≤ (2147483647 : Int)))) : (inr (x0 + (1 : Int))) := by omega
theorem q_3194 {x0 x1 x2 : Int} (h0 : (x0 ≤ (16384 : Int))) (h1 : (((0 : Int) ≤ x1) ∧ ((x1 ≤ x2) ∧ (x2 ≤ (65536 : Int))))) (h2 : (x1 = x0)) : (((0 : Int) ≤ x1) ∧ ((x1 ≤ x2) ∧ ((x2 ≤ (65536 : Int)) ∧ (x1 ≤ (16384 : Int))))) := by omega
theorem q_3195 {x0 x1 : Int} (h0 : (((0 : Int) ≤ x0) ∧ ((x0 ≤ x1) ∧ (x1 ≤ (65536 : Int))))) : (((0 : Int) ≤ (0 : Int)) ∧ (((0 : Int) ≤ x0) ∧ (x0 ≤ x1))) := by omega
theorem q_3196 {x0 x1 : Int} (h0 : (x0 = (x1 / (4 : Int)))) (h1 : (inr x0)) (h2 : (((0 : Int) ≤ x1) ∧ (x1 ≤ (255 : Int)))) : (inr (x0 - (59 : Int))) := by omega
theorem q_3197 {x0 x1 x2 : Int} (h0 : (x0 = (x1 / (4 : Int)))) (h1 : ((((0 : Int) < (x0 - (59 : Int))) ∧ (x2 = (x0 - (59 : Int)))) ∨ ((¬ ((0 : Int) < (x0 - (59 : Int)))) ∧ (x2 = (0 : Int))))) (h2 : (((0 : Int) ≤ x1) ∧ (x1 ≤ (255 : Int)))) : (((0 : Int) ≤ x2) ∧ (x2 ≤ (4 : Int))) := by omega
theorem q_3198 {x0 x1 : Int} (h0 : (inr x0)) (h1 : ((((0 : Int) < (x0 - (59 : Int))) ∧ (x1 = (x0 - (59 : Int)))) ∨ ((¬ ((0 : Int) < (x0 - (59 : Int)))) ∧ (x1 = (0 : Int))))) : (inr x1) := by omega
theorem q_3199 {x0 : Int} (h0 : (x0 < (60 : Int))) (h1 : (inr x0)) : (inr (x0 + (1 : Int))) := by omega
theorem q_3200 {x0 x1 x2 : Int} (h0 : (x0 = (0 : Int))) (h1 : (x1 < (60 : Int))) (h2 : (x1 = (x2 / (4 : Int)))) (h3 : (((0 : Int) ≤ x2) ∧ (x2 ≤ (255 : Int)))) (h4 : (x0 = (x2 % (4 : Int)))) : (((1 : Int) ≤ (x1 + (1 : Int))) ∧ ((x1 + (1 : Int)) ≤ (4294967296 : Int))) := by omega
theorem q_3201 {x0 : Int} (h0 : (x0 < (60 : Int))) (h1 : (inr x0)) : (inrJ (x0 + (1 : Int))) := by omega
theorem q_3202 {x0 x1 : Int} (h0 : (x0 = (x1 / (4 : Int)))) (h1 : (inr x0)) (h2 : (((0 : Int) ≤ x1) ∧ (x1 ≤ (255 : Int)))) : ((inr x0) ∧ ((0 : Int) ≤ x0)) := by omega
theorem q_3203 {x0 : Int} : (((1 : Int) ≤ ((x0 % (8 : Int)) + (4 : Int))) ∧ (((x0 % (8 : Int)) + (4 : Int)) ≤ (4294967296 : Int))) := by omega
theorem q_3204 {x0 x1 : Int} (h0 : (x0 = (x1 / (4 : Int)))) (h1 : (inr x0)) (h2 : (((0 : Int) ≤ x1) ∧ (x1 ≤ (255 : Int)))) : (inr (x0 + (1 : Int))) := by omega
theorem q_3205 {x0 x1 : Int} (h0 : (x0 = (x1 / (4 : Int)))) (h1 : (inr x0)) (h2 : (((0 : Int) ≤ x1) ∧ (x1 ≤ (255 : Int)))) : (((1 : Int) ≤ (x0 + (1 : Int))) ∧ ((x0 + (1 : Int)) ≤ (4294967296 : Int))) := by omega
theorem q_3206 {x0 : Int} (h0 : (inr x0)) : (inrJ (x0 + (1 : Int))) := by omega
theorem q_3207 : (((0 : Int) ≤ (4 : Int)) ∨ ((1 : Int) = (0 : Int))) := by omega
theorem q_3208 {x0 x1 x2 : Int} (h0 : (((0 : Int) ≤ x0) ∧ ((x0 ≤ x1) ∧ ((x1 ≤ x2) ∧ (x2 ≤ (65536 : Int)))))) : ((x0 ≤ x0) ∧ (x0 ≤ x1)) := by omega
theorem q_3209 {x0 : Int} (h0 : (x0 = (0 : Int))) : (((0 : Int) ≤ x0) ∧ (x0 ≤ (3 : Int))) := by omega
theorem q_3210 {x0 x1 x2 x3 x4 x5 x6 x7 : Int} (h0 : (((0 : Int) ≤ x0) ∧ ((x0 ≤ x1) ∧ ((x1 ≤ x2) ∧ (x2 ≤ (65536 : Int)))))) (h1 : (((0 : Int) ≤ x3) ∧ (x3 < x4))) (h2 : (x5 = (3 : Int))) (h3 : (x6 = x0)) : ((x5 = (0 : Int)) → ((x0 ≤ x6) ∧ ((x6 ≤ x1) ∧ (((0 : Int) ≤ x3) ∧ (x3 ≤ x7))))) := by omega
theorem q_3211 {x0 x1 x2 x3 : Int} (h0 : (x0 < x1)) (h1 : (((0 : Int) ≤ x2) ∧ ((x2 ≤ x1) ∧ ((x1 ≤ x3) ∧ (x3 ≤ (65536 : Int)))))) (h2 : ((x2 ≤ x0) ∧ (x0 ≤ x1))) : (((0 : Int) ≤ x0) ∧ (x0 < x3)) := by omega
theorem q_3212 {x0 : Int} : (((x0 + (1 : Int)) ≤ (4 : Int)) ∨ ((0 : Int) = (0 : Int))) := by omega
theorem q_3213 {x0 x1 : Int} (h0 : (x0 ≠ (4 : Int))) : ((x0 ≠ (4 : Int)) ∨ ((x0 = (4 : Int)) ∧ ((x1 % (256 : Int)) ≤ (15 : Int)))) := by omega
theorem q_3214 {x0 x1 : Int} (h0 : (x0 = (4 : Int))) (h1 : ((x1 % (256 : Int)) ≤ (15 : Int))) : ((x0 ≠ (4 : Int)) ∨ ((x0 = (4 : Int)) ∧ ((x1 % (256 : Int)) ≤ (15 : Int)))) := by omega
theorem q_3215 {x0 x1 x2 x3 x4 x5 x6 x7 : Int} (h0 : (((0 : Int) ≤ x0) ∧ ((x0 ≤ x1) ∧ ((x1 ≤ x2) ∧ (x2 ≤ (65536 : Int)))))) (h1 : (((0 : Int) ≤ x3) ∧ (x3 < x4))) (h2 : (x5 = (2 : Int))) (h3 : (x6 = x0)) : ((x5 = (0 : Int)) → ((x0 ≤ x6) ∧ ((x6 ≤ x1) ∧ (((0 : Int) ≤ x3) ∧ (x3 ≤ x7))))) := by omega
theorem q_3216 {x0 x1 x2 x3 x4 x5 x6 x7 : Int} (h0 : (((0 : Int) ≤ x0) ∧ ((x0 ≤ x1) ∧ ((x1 ≤ x2) ∧ (x2 ≤ (65536 : Int)))))) (h1 : (((0 : Int) ≤ x3) ∧ (x3 < x4))) (h2 : (x5 = (1 : Int))) (h3 : (x6 = x1)) : ((x5 = (0 : Int)) → ((x0 ≤ x6) ∧ ((x6 ≤ x1) ∧ (((0 : Int) ≤ x3) ∧ (x3 ≤ x7))))) := by omega
theorem q_3217 {x0 x1 x2 x3 x4 x5 : Int} (h0 : (x0 = (0 : Int))) (h1 : ((x0 = (0 : Int)) → ((x1 ≤ x2) ∧ ((x2 ≤ x3) ∧ (((0 : Int) ≤ x4) ∧ (x4 ≤ x5)))))) : (x1 ≤ x2) := by omega
theorem q_3218 {x0 x1 x2 : Int} (h0 : ((x0 = (0 : Int)) ∧ ((x1 + x2) ≤ (65536 : Int)))) : (x0 = (0 : Int)) := by omega
theorem q_3219 {x0 x1 x2 x3 x4 x5 x6 : Int} (h0 : (x0 = (0 : Int))) (h1 : ((x0 = (0 : Int)) → ((x1 ≤ x2) ∧ ((x2 ≤ x3) ∧ (((0 : Int) ≤ x4) ∧ (x4 ≤ x5)))))) : ((x6 - x6) ≤ x4) := by omega
theorem q_3220 {x0 : Int} : ((x0 ≤ x0) ∧ (x0 = x0)) := by omega
theorem q_3221 {x0 x1 x2 x3 x4 x5 x6 : Int} (h0 : (x0 = (0 : Int))) (h1 : (((0 : Int) ≤ x1) ∧ ((x1 ≤ x2) ∧ ((x2 ≤ x3) ∧ (x3 ≤ (65536 : Int)))))) (h2 : ((x0 = (0 : Int)) → ((x1 ≤ x4) ∧ ((x4 ≤ x2) ∧ (((0 : Int) ≤ x5) ∧ (x5 ≤ x6)))))) : (((0 : Int) ≤ x4) ∧ (x4 ≤ x2)) := by omega
theorem q_3222 {x0 x1 x2 : Int} (h0 : (x0 ≤ x1)) (h1 : (((0 : Int) ≤ x2) ∧ (x2 ≤ x0))) (h2 : (x1 ≤ x2)) : (x2 = x0) := by omega
theorem q_3223 {x0 x1 x2 x3 : Int} (h0 : (((0 : Int) ≤ x0) ∧ ((x0 ≤ x1) ∧ (x1 ≤ (65536 : Int))))) (h1 : (((0 : Int) ≤ x2) ∧ ((x2 ≤ x3) ∧ (x3 ≤ (65536 : Int))))) (h2 : ((x0 ≤ x2) ∧ (x0 = x0))) : (inr (x2 - x0)) := by omega
theorem q_3224 {x0 x1 x2 x3 : Int} (h0 : (((0 : Int) ≤ x0) ∧ ((x0 ≤ x1) ∧ (x1 ≤ (65536 : Int))))) (h1 : (((0 : Int) ≤ x2) ∧ ((x2 ≤ x3) ∧ (x3 ≤ (65536 : Int))))) (h2 : ((x0 ≤ x2) ∧ (x0 = x0))) : (inrJ (x2 - x0)) := by omega
theorem q_3225 {x0 x1 x2 : Int} (h0 : (x0 = x1)) : ((x2 ≠ (0 : Int)) ∨ (x0 = x1)) := by omega
theorem q_3226 {x0 x1 x2 x3 x4 x5 x6 x7 : Int} (h0 : (x0 = (0 : Int))) (h1 : ((x1 - x2) ≤ x3)) (h2 : ((x0 = (0 : Int)) → ((x4 ≤ x5) ∧ ((x5 ≤ x6) ∧ (((0 : Int) ≤ x3) ∧ (x3 ≤ x7)))))) : ((x1 ≤ (x2 + x7)) ∨ (x1 = x2)) := by omega
theorem q_3227 {x0 x1 : Int} (h0 : ((x0 ≤ x1) ∧ (x0 = x0))) : (x0 ≤ x1) := by omega
theorem q_3228 {x0 : Int} (h0 : (x0 = (0 : Int))) : (((0 : Int) ≤ x0) ∧ (x0 ≤ (6 : Int))) := by omega
theorem q_3229 {x0 x1 x2 : Int} (h0 : (x0 = (6 : Int))) : ((x0 ≠ (0 : Int)) ∨ (x1 = x2)) := by omega
theorem q_3230 {x0 : Int} (h0 : (x0 = (6 : Int))) : (((0 : Int) ≤ x0) ∧ (x0 ≤ (6 : Int))) := by omega
theorem q_3231 {x0 x1 : Int} (h0 : (x0 ≤ x1)) (h1 : (((0 : Int) ≤ x1) ∧ (x1 ≤ x0))) : (x1 = x0) := by omega
theorem q_3232 {x0 x1 x2 x3 : Int} (h0 : (x0 < x1)) (h1 : (((0 : Int) ≤ x2) ∧ ((x2 ≤ x1) ∧ ((x1 ≤ x3) ∧ (x3 ≤ (65536 : Int)))))) (h2 : (((0 : Int) ≤ x0) ∧ (x0 ≤ x1))) : (inr ((x1 - x0) - (1 : Int))) := by omega
theorem q_3233 {x0 : Int} (h0 : (((0 : Int) ≤ x0) ∧ (x0 ≤ (4 : Int)))) : (((0 : Int) ≤ x0) ∧ (x0 ≤ (8 : Int))) := by omega
theorem q_3234 {x0 x1 x2 x3 x4 : Int} (h0 : (x0 ≤ ((x1 - x2) - (1 : Int)))) (h1 : (((0 : Int) ≤ x3) ∧ ((x3 ≤ x1) ∧ ((x1 ≤ x4) ∧ (x4 ≤ (65536 : Int)))))) (h2 : (((0 : Int) ≤ x2) ∧ (x2 ≤ x1))) : ((x0 ≤ (0 : Int)) ∨ (((0 : Int) ≤ (x2 + (1 : Int))) ∧ (((x2 + (1 : Int)) + x0) ≤ x4))) := by omega
theorem q_3235 {x0 x1 x2 x3 x4 : Int} (h0 : (x0 ≤ ((x1 - x2) - (1 : Int)))) (h1 : (((0 : Int) ≤ x3) ∧ ((x3 ≤ x1) ∧ ((x1 ≤ x4) ∧ (x4 ≤ (65536 : Int)))))) (h2 : (((0 : Int) ≤ x2) ∧ (x2 ≤ x1))) (h3 : (((0 : Int) ≤ x0) ∧ (x0 ≤ (4 : Int)))) : (inr (x1 - (x2 + ((1 : Int) + x0)))) := by omega
theorem q_3236 {x0 x1 x2 x3 x4 : Int} (h0 : (x0 ≤ ((x1 - x2) - (1 : Int)))) (h1 : (((0 : Int) ≤ x3) ∧ ((x3 ≤ x1) ∧ ((x1 ≤ x4) ∧ (x4 ≤ (65536 : Int)))))) (h2 : (((0 : Int) ≤ x2) ∧ (x2 ≤ x1))) (h3 : (((0 : Int) ≤ x0) ∧ (x0 ≤ (4 : Int)))) : (inrJ (x1 - (x2 + ((1 : Int) + x0)))) := by omega
theorem q_3237 {x0 x1 x2 x3 x4 : Int} (h0 : (x0 ≤ ((x1 - x2) - (1 : Int)))) (h1 : (((0 : Int) ≤ x3) ∧ ((x3 ≤ x1) ∧ ((x1 ≤ x4) ∧ (x4 ≤ (65536 : Int)))))) (h2 : (((0 : Int) ≤ x2) ∧ (x2 ≤ x1))) (h3 : (((0 : Int) ≤ x0) ∧ (x0 ≤ (4 : Int)))) : (inr (x2 + ((1 : Int) + x0))) := by omega
theorem q_3238 {x0 x1 x2 x3 : Int} (h0 : (x0 ≤ x1)) (h1 : (((0 : Int) ≤ x2) ∧ (x2 ≤ (4 : Int)))) (h2 : (((1 : Int) ≤ x3) ∧ (x3 ≤ (4294967296 : Int)))) : ((x0 + (1 : Int)) ≤ ((x1 + ((1 : Int) + x2)) + x3)) := by omega
theorem q_3239 {x0 x1 x2 x3 : Int} (h0 : ((x0 ≤ x1) ∧ (x0 = x0))) (h1 : (((1 : Int) ≤ x2) ∧ (x2 ≤ (4294967296 : Int)))) (h2 : (((x3 = (x1 + x2)) ∧ ((0 : Int) ≤ x2)) ∨ ((x3 = x1) ∧ ((x2 < (0 : Int)) ∨ ((65536 : Int) < (x1 + x2)))))) : ((x0 ≤ x3) ∧ (x0 = x0)) := by omega
theorem q_3240 {x0 : Int} (h0 : (x0 = (1 : Int))) : (((0 : Int) ≤ x0) ∧ (x0 ≤ (6 : Int))) := by omega
theorem q_3241 {x0 x1 x2 : Int} (h0 : (((0 : Int) ≤ x0) ∧ ((x0 ≤ x1) ∧ (x1 ≤ (65536 : Int))))) (h1 : ((x0 ≤ x2) ∧ (x0 = x0))) : (((0 : Int) ≤ x0) ∧ (x0 ≤ x2)) := by omega
theorem q_3242 {x0 x1 x2 : Int} (h0 : (x0 ≤ x1)) (h1 : (((0 : Int) ≤ x2) ∧ (x2 ≤ (4 : Int)))) : ((x0 + (1 : Int)) ≤ (x1 + ((1 : Int) + x2))) := by omega
theorem q_3243 {x0 x1 x2 : Int} (h0 : (x0 ≤ ((x1 - x2) - (1 : Int)))) (h1 : (((0 : Int) ≤ x2) ∧ (x2 ≤ x1))) (h2 : (((0 : Int) ≤ x0) ∧ (x0 ≤ (4 : Int)))) : (((0 : Int) ≤ (x2 + ((1 : Int) + x0))) ∧ ((x2 + ((1 : Int) + x0)) ≤ x1)) := by omega
theorem q_3244 {x0 x1 x2 : Int} (h0 : (x0 = (5 : Int))) : ((x0 ≠ (0 : Int)) ∨ (x1 = x2)) := by omega
theorem q_3245 {x0 : Int} (h0 : (x0 = (5 : Int))) : (((0 : Int) ≤ x0) ∧ (x0 ≤ (6 : Int))) := by omega
theorem q_3246 {x0 x1 x2 : Int} (h0 : (x0 = (4 : Int))) : ((x0 ≠ (0 : Int)) ∨ (x1 = x2)) := by omega
theorem q_3247 {x0 : Int} (h0 : (x0 = (4 : Int))) : (((0 : Int) ≤ x0) ∧ (x0 ≤ (6 : Int))) := by omega
theorem q_3248 {x0 : Int} (h0 : (((0 : Int) ≤ x0) ∧ (x0 ≤ (4294967295 : Int)))) : (((0 : Int) ≤ x0) ∧ (x0 ≤ (4294969343 : Int))) := by omega
theorem q_3249 {x0 x1 : Int} (h0 : (x0 = (0 : Int))) (h1 : (x0 = ((x1 % (256 : Int)) % (4 : Int)))) : ((((0 : Int) = (1 : Int)) ∧ (((x1 % (256 : Int)) % (4 : Int)) ≠ (0 : Int))) ∨ (((0 : Int) = (0 : Int)) ∧ (((x1 % (256 : Int)) % (4 : Int)) = (0 : Int)))) := by omega
theorem q_3250 {x0 x1 x2 : Int} (h0 : (x0 ≠ (0 : Int))) : ((x0 ≠ (0 : Int)) ∨ (x1 = x2)) := by omega
theorem q_3251 {x0 x1 : Int} : ((x0 ≤ (x0 + x1)) ∨ (x0 = x0)) := by omega
theorem q_3252 {x0 : Int} (h0 : (((0 : Int) ≤ x0) ∧ (x0 ≤ (3 : Int)))) : (((0 : Int) ≤ x0) ∧ (x0 ≤ (6 : Int))) := by omega
theorem q_3253 {x0 x1 x2 x3 x4 x5 x6 : Int} (h0 : (((0 : Int) ≤ x0) ∧ (x0 ≤ (65536 : Int)))) (h1 : ((x1 = (0 : Int)) ∧ (x2 = (0 : Int)))) (h2 : ((x3 = x4) ∧ ((x5 = x0) ∧ (x6 = x4)))) : ((x2 = (0 : Int)) ∧ ((x1 + x5) ≤ (65536 : Int))) := by omega
theorem q_3254 {x0 x1 x2 x3 x4 : Int} (h0 : (((0 : Int) ≤ x0) ∧ (x0 ≤ (65536 : Int)))) (h1 : ((x1 = x2) ∧ ((x3 = x0) ∧ (x4 = x2)))) : (x3 ≤ (65536 : Int)) := by omega
theorem q_3255 : (inr (-(62 : Int))) := by omega
theorem q_3256 {x0 x1 : Int} (h0 : (x0 = (64 : Int))) (h1 : (x1 = x0)) : ((((1 : Int) = (1 : Int)) ∧ (x1 = (64 : Int))) ∨ (((1 : Int) = (0 : Int)) ∧ (x1 ≠ (64 : Int)))) := by omega
theorem q_3257 {x0 x1 x2 : Int} (h0 : (((0 : Int) ≤ x0) ∧ ((x0 ≤ x1) ∧ (x1 ≤ (65536 : Int))))) (h1 : (((0 : Int) ≤ x2) ∧ ((x2 + (4 : Int)) ≤ x0))) : (((0 : Int) ≤ x2) ∧ ((x2 + (4 : Int)) ≤ x1)) := by omega
theorem q_3258 : (inr (407708164 : Int)) := by omega
theorem q_3259 {x0 x1 x2 : Int} (h0 : (((0 : Int) ≤ x0) ∧ ((x0 ≤ x1) ∧ (x1 ≤ (65536 : Int))))) (h1 : (((0 : Int) ≤ x2) ∧ ((x2 + (4 : Int)) ≤ x0))) : (inr (x0 - x2)) := by omega
theorem q_3260 {x0 x1 x2 : Int} (h0 : ((5 : Int) ≤ (x0 - x1))) (h1 : (((0 : Int) ≤ x0) ∧ ((x0 ≤ x2) ∧ (x2 ≤ (65536 : Int))))) (h2 : (((0 : Int) ≤ x1) ∧ ((x1 + (4 : Int)) ≤ x0))) : (((0 : Int) ≤ (x1 + (4 : Int))) ∧ ((x1 + (4 : Int)) < x2)) := by omega
theorem q_3261 {x0 : Int} : (((-(2147483648 : Int)) ≤ (x0 % (256 : Int))) ∧ ((x0 % (256 : Int)) ≤ (2147483647 : Int))) := by omega
theorem q_3262 {x0 : Int} (h0 : (((0 : Int) ≤ (x0 % (256 : Int))) ∧ ((x0 % (256 : Int)) ≤ (255 : Int)))) : (inr (x0 % (256 : Int))) := by omega
theorem q_3263 {x0 x1 x2 : Int} (h0 : ((5 : Int) ≤ (x0 - x1))) (h1 : (((0 : Int) ≤ x0) ∧ ((x0 ≤ x2) ∧ (x2 ≤ (65536 : Int))))) (h2 : (((0 : Int) ≤ x1) ∧ ((x1 + (4 : Int)) ≤ x0))) : (inr (x0 - x1)) := by omega
theorem q_3264 {x0 x1 x2 : Int} (h0 : ((6 : Int) ≤ (x0 - x1))) (h1 : (((0 : Int) ≤ x0) ∧ ((x0 ≤ x2) ∧ (x2 ≤ (65536 : Int))))) (h2 : (((0 : Int) ≤ x1) ∧ ((x1 + (4 : Int)) ≤ x0))) : (((0 : Int) ≤ (x1 + (5 : Int))) ∧ ((x1 + (5 : Int)) < x2)) := by omega
theorem q_3265 {x0 x1 x2 : Int} (h0 : ((6 : Int) ≤ (x0 - x1))) (h1 : (((0 : Int) ≤ x0) ∧ ((x0 ≤ x2) ∧ (x2 ≤ (65536 : Int))))) (h2 : (((0 : Int) ≤ x1) ∧ ((x1 + (4 : Int)) ≤ x0))) : (inr (x1 + (5 : Int))) := by omega
theorem q_3266 {x0 x1 x2 x3 : Int} (h0 : (x0 = (5 : Int))) : ((x0 = (0 : Int)) → ((x1 = (0 : Int)) ∨ ((x2 + (14 : Int)) ≤ x3))) := by omega
theorem q_3267 {x0 x1 x2 x3 x4 x5 x6 x7 : Int} (h0 : ((6 : Int) ≤ (x0 - x1))) (h1 : (((0 : Int) ≤ x2) ∧ ((x2 ≤ x3) ∧ (x3 ≤ (65536 : Int))))) (h2 : (x4 = (5 : Int))) (h3 : (x5 = (x1 + (5 : Int)))) (h4 : (((-(2147483648 : Int)) ≤ x6) ∧ (x6 ≤ (2147483647 : Int)))) (h5 : (((-(2147483648 : Int)) ≤ x7) ∧ (x7 ≤ (2147483647 : Int)))) : ((x4 = (0 : Int)) → (((x1 + (7 : Int)) ≤ x5) ∧ ((x5 ≤ x0) ∧ ((x7 = x2) ∧ (((65536 : Int) ≤ x6) ∧ (x6 ≤ (4194304 : Int))))))) := by omega
theorem q_3268 {x0 x1 x2 : Int} (h0 : ((6 : Int) ≤ (x0 - x1))) (h1 : (((0 : Int) ≤ x0) ∧ ((x0 ≤ x2) ∧ (x2 ≤ (65536 : Int))))) (h2 : (((0 : Int) ≤ x1) ∧ ((x1 + (4 : Int)) ≤ x0))) : (inr (((x1 + (6 : Int)) + (0 : Int)) + (0 : Int))) := by omega
theorem q_3269 {x0 x1 x2 : Int} (h0 : ((((x0 + (6 : Int)) + (0 : Int)) + (0 : Int)) < x1)) (h1 : (((0 : Int) ≤ x1) ∧ ((x1 ≤ x2) ∧ (x2 ≤ (65536 : Int))))) (h2 : (((0 : Int) ≤ x0) ∧ ((x0 + (4 : Int)) ≤ x1))) : (((0 : Int) ≤ (((x0 + (6 : Int)) + (0 : Int)) + (0 : Int))) ∧ ((((x0 + (6 : Int)) + (0 : Int)) + (0 : Int)) < x2)) := by omega
theorem q_3270 {x0 x1 x2 : Int} (h0 : ((((x0 + (6 : Int)) + (0 : Int)) + (0 : Int)) < x1)) (h1 : (((0 : Int) ≤ x1) ∧ ((x1 ≤ x2) ∧ (x2 ≤ (65536 : Int))))) (h2 : (((0 : Int) ≤ x0) ∧ ((x0 + (4 : Int)) ≤ x1))) : (((0 : Int) ≤ (x0 + (4 : Int))) ∧ (((x0 + (4 : Int)) ≤ (((x0 + (6 : Int)) + (0 : Int)) + (0 : Int))) ∧ ((((x0 + (6 : Int)) + (0 : Int)) + (0 : Int)) ≤ x2))) := by omega
theorem q_3271 {x0 x1 x2 : Int} (h0 : ((((x0 + (6 : Int)) + (0 : Int)) + (0 : Int)) < x1)) (h1 : (((0 : Int) ≤ x1) ∧ ((x1 ≤ x2) ∧ (x2 ≤ (65536 : Int))))) (h2 : (((0 : Int) ≤ x0) ∧ ((x0 + (4 : Int)) ≤ x1))) : (inr (((x0 + (6 : Int)) + (0 : Int)) + (0 : Int))) := by omega
theorem q_3272 {x0 x1 x2 : Int} (h0 : ((((x0 + (6 : Int)) + (0 : Int)) + (0 : Int)) < x1)) (h1 : (((0 : Int) ≤ x1) ∧ ((x1 ≤ x2) ∧ (x2 ≤ (65536 : Int))))) (h2 : (((0 : Int) ≤ x0) ∧ ((x0 + (4 : Int)) ≤ x1))) : (inr (x0 + (4 : Int))) := by omega
theorem q_3273 {x0 : Int} (h0 : ((4 : Int) ≤ x0)) (h1 : (x0 ≤ (7 : Int))) : (((0 : Int) ≤ ((8 : Int) + ((2 : Int) * x0))) ∧ (((8 : Int) + ((2 : Int) * x0)) ≤ (31 : Int))) := by omega
theorem q_3274 {x0 x1 x2 : Int} (h0 : ((((x0 + (6 : Int)) + (0 : Int)) + (0 : Int)) < x1)) (h1 : (((0 : Int) ≤ x1) ∧ ((x1 ≤ x2) ∧ (x2 ≤ (65536 : Int))))) (h2 : (((0 : Int) ≤ x0) ∧ ((x0 + (4 : Int)) ≤ x1))) : (inr ((((x0 + (6 : Int)) + (0 : Int)) + (0 : Int)) + (1 : Int))) := by omega
theorem q_3275 {x0 x1 x2 x3 x4 : Int} (h0 : (x0 = (0 : Int))) (h1 : (x1 = x0)) : ((x2 = (0 : Int)) → ((x1 = (0 : Int)) ∨ ((x3 + (14 : Int)) ≤ x4))) := by omega
theorem q_3276 {x0 x1 x2 x3 : Int} (h0 : (x0 = (6 : Int))) : ((x0 = (0 : Int)) → ((x1 = (0 : Int)) ∨ ((x2 + (14 : Int)) ≤ x3))) := by omega
theorem q_3277 {x0 x1 x2 x3 x4 x5 x6 x7 : Int} (h0 : ((((x0 + (6 : Int)) + (0 : Int)) + (0 : Int)) < x1)) (h1 : (((0 : Int) ≤ x2) ∧ ((x2 ≤ x3) ∧ (x3 ≤ (65536 : Int))))) (h2 : (x4 = (6 : Int))) (h3 : (x5 = (((x0 + (6 : Int)) + (0 : Int)) + (0 : Int)))) (h4 : (((-(2147483648 : Int)) ≤ x6) ∧ (x6 ≤ (2147483647 : Int)))) (h5 : (((-(2147483648 : Int)) ≤ x7) ∧ (x7 ≤ (2147483647 : Int)))) : ((x4 = (0 : Int)) → (((x0 + (7 : Int)) ≤ x5) ∧ ((x5 ≤ x1) ∧ ((x7 = x2) ∧ (((65536 : Int) ≤ x6) ∧ (x6 ≤ (4194304 : Int))))))) := by omega
theorem q_3278 {x0 x1 x2 x3 : Int} (h0 : (x0 = (1 : Int))) : ((x0 = (0 : Int)) → ((x1 = (0 : Int)) ∨ ((x2 + (14 : Int)) ≤ x3))) := by omega
theorem q_3279 {x0 x1 x2 x3 x4 x5 x6 x7 : Int} (h0 : ((6 : Int) ≤ (x0 - x1))) (h1 : (((0 : Int) ≤ x2) ∧ ((x2 ≤ x3) ∧ (x3 ≤ (65536 : Int))))) (h2 : (x4 = (1 : Int))) (h3 : (x5 = x0)) (h4 : (((-(2147483648 : Int)) ≤ x6) ∧ (x6 ≤ (2147483647 : Int)))) (h5 : (((-(2147483648 : Int)) ≤ x7) ∧ (x7 ≤ (2147483647 : Int)))) : ((x4 = (0 : Int)) → (((x1 + (7 : Int)) ≤ x5) ∧ ((x5 ≤ x0) ∧ ((x7 = x2) ∧ (((65536 : Int) ≤ x6) ∧ (x6 ≤ (4194304 : Int))))))) := by omega
theorem q_3280 {x0 x1 x2 : Int} (h0 : ((6 : Int) ≤ (x0 - x1))) (h1 : (((0 : Int) ≤ x0) ∧ ((x0 ≤ x2) ∧ (x2 ≤ (65536 : Int))))) (h2 : (((0 : Int) ≤ x1) ∧ ((x1 + (4 : Int)) ≤ x0))) : (inr (((x1 + (6 : Int)) + (0 : Int)) + (4 : Int))) := by omega
theorem q_3281 {x0 x1 x2 : Int} (h0 : ((((x0 + (6 : Int)) + (0 : Int)) + (4 : Int)) < x1)) (h1 : (((0 : Int) ≤ x1) ∧ ((x1 ≤ x2) ∧ (x2 ≤ (65536 : Int))))) (h2 : (((0 : Int) ≤ x0) ∧ ((x0 + (4 : Int)) ≤ x1))) : (((0 : Int) ≤ (((x0 + (6 : Int)) + (0 : Int)) + (4 : Int))) ∧ ((((x0 + (6 : Int)) + (0 : Int)) + (4 : Int)) < x2)) := by omega
theorem q_3282 {x0 x1 x2 : Int} (h0 : ((((x0 + (6 : Int)) + (0 : Int)) + (4 : Int)) < x1)) (h1 : (((0 : Int) ≤ x1) ∧ ((x1 ≤ x2) ∧ (x2 ≤ (65536 : Int))))) (h2 : (((0 : Int) ≤ x0) ∧ ((x0 + (4 : Int)) ≤ x1))) : (((0 : Int) ≤ (x0 + (4 : Int))) ∧ (((x0 + (4 : Int)) ≤ (((x0 + (6 : Int)) + (0 : Int)) + (4 : Int))) ∧ ((((x0 + (6 : Int)) + (0 : Int)) + (4 : Int)) ≤ x2))) := by omega
theorem q_3283 {x0 x1 x2 : Int} (h0 : ((((x0 + (6 : Int)) + (0 : Int)) + (4 : Int)) < x1)) (h1 : (((0 : Int) ≤ x1) ∧ ((x1 ≤ x2) ∧ (x2 ≤ (65536 : Int))))) (h2 : (((0 : Int) ≤ x0) ∧ ((x0 + (4 : Int)) ≤ x1))) : (inr (((x0 + (6 : Int)) + (0 : Int)) + (4 : Int))) := by omega
theorem q_3284 {x0 x1 x2 : Int} (h0 : ((((x0 + (6 : Int)) + (0 : Int)) + (4 : Int)) < x1)) (h1 : (((0 : Int) ≤ x1) ∧ ((x1 ≤ x2) ∧ (x2 ≤ (65536 : Int))))) (h2 : (((0 : Int) ≤ x0) ∧ ((x0 + (4 : Int)) ≤ x1))) : (inr (x0 + (4 : Int))) := by omega
theorem q_3285 {x0 x1 x2 : Int} (h0 : ((((x0 + (6 : Int)) + (0 : Int)) + (4 : Int)) < x1)) (h1 : (((0 : Int) ≤ x1) ∧ ((x1 ≤ x2) ∧ (x2 ≤ (65536 : Int))))) (h2 : (((0 : Int) ≤ x0) ∧ ((x0 + (4 : Int)) ≤ x1))) : (inr ((((x0 + (6 : Int)) + (0 : Int)) + (4 : Int)) + (1 : Int))) := by omega
theorem q_3286 {x0 x1 x2 x3 x4 x5 x6 x7 : Int} (h0 : ((((x0 + (6 : Int)) + (0 : Int)) + (4 : Int)) < x1)) (h1 : (((0 : Int) ≤ x2) ∧ ((x2 ≤ x3) ∧ (x3 ≤ (65536 : Int))))) (h2 : (x4 = (6 : Int))) (h3 : (x5 = (((x0 + (6 : Int)) + (0 : Int)) + (4 : Int)))) (h4 : (((-(2147483648 : Int)) ≤ x6) ∧ (x6 ≤ (2147483647 : Int)))) (h5 : (((-(2147483648 : Int)) ≤ x7) ∧ (x7 ≤ (2147483647 : Int)))) : ((x4 = (0 : Int)) → (((x0 + (7 : Int)) ≤ x5) ∧ ((x5 ≤ x1) ∧ ((x7 = x2) ∧ (((65536 : Int) ≤ x6) ∧ (x6 ≤ (4194304 : Int))))))) := by omega
theorem q_3287 {x0 x1 x2 : Int} (h0 : ((6 : Int) ≤ (x0 - x1))) (h1 : (((0 : Int) ≤ x0) ∧ ((x0 ≤ x2) ∧ (x2 ≤ (65536 : Int))))) (h2 : (((0 : Int) ≤ x1) ∧ ((x1 + (4 : Int)) ≤ x0))) : (inr (((x1 + (6 : Int)) + (8 : Int)) + (0 : Int))) := by omega
theorem q_3288 {x0 x1 x2 : Int} (h0 : ((((x0 + (6 : Int)) + (8 : Int)) + (0 : Int)) < x1)) (h1 : (((0 : Int) ≤ x1) ∧ ((x1 ≤ x2) ∧ (x2 ≤ (65536 : Int))))) (h2 : (((0 : Int) ≤ x0) ∧ ((x0 + (4 : Int)) ≤ x1))) : (((0 : Int) ≤ (((x0 + (6 : Int)) + (8 : Int)) + (0 : Int))) ∧ ((((x0 + (6 : Int)) + (8 : Int)) + (0 : Int)) < x2)) := by omega
theorem q_3289 {x0 x1 x2 : Int} (h0 : ((((x0 + (6 : Int)) + (8 : Int)) + (0 : Int)) < x1)) (h1 : (((0 : Int) ≤ x1) ∧ ((x1 ≤ x2) ∧ (x2 ≤ (65536 : Int))))) (h2 : (((0 : Int) ≤ x0) ∧ ((x0 + (4 : Int)) ≤ x1))) : (((0 : Int) ≤ (x0 + (4 : Int))) ∧ (((x0 + (4 : Int)) ≤ (((x0 + (6 : Int)) + (8 : Int)) + (0 : Int))) ∧ ((((x0 + (6 : Int)) + (8 : Int)) + (0 : Int)) ≤ x2))) := by omega
theorem q_3290 {x0 x1 x2 : Int} (h0 : ((((x0 + (6 : Int)) + (8 : Int)) + (0 : Int)) < x1)) (h1 : (((0 : Int) ≤ x1) ∧ ((x1 ≤ x2) ∧ (x2 ≤ (65536 : Int))))) (h2 : (((0 : Int) ≤ x0) ∧ ((x0 + (4 : Int)) ≤ x1))) : (inr (((x0 + (6 : Int)) + (8 : Int)) + (0 : Int))) := by omega
theorem q_3291 {x0 x1 x2 : Int} (h0 : ((((x0 + (6 : Int)) + (8 : Int)) + (0 : Int)) < x1)) (h1 : (((0 : Int) ≤ x1) ∧ ((x1 ≤ x2) ∧ (x2 ≤ (65536 : Int))))) (h2 : (((0 : Int) ≤ x0) ∧ ((x0 + (4 : Int)) ≤ x1))) : (inr (x0 + (4 : Int))) := by omega
theorem q_3292 {x0 x1 x2 : Int} (h0 : ((((x0 + (6 : Int)) + (8 : Int)) + (0 : Int)) < x1)) (h1 : (((0 : Int) ≤ x1) ∧ ((x1 ≤ x2) ∧ (x2 ≤ (65536 : Int))))) (h2 : (((0 : Int) ≤ x0) ∧ ((x0 + (4 : Int)) ≤ x1))) : (inr ((((x0 + (6 : Int)) + (8 : Int)) + (0 : Int)) + (1 : Int))) := by omega
theorem q_3293 {x0 x1 x2 x3 : Int} (h0 : ((((x0 + (6 : Int)) + (8 : Int)) + (0 : Int)) < x1)) : ((x2 = (0 : Int)) → ((x3 = (0 : Int)) ∨ ((x0 + (14 : Int)) ≤ x1))) := by omega
theorem q_3294 {x0 x1 x2 x3 x4 x5 x6 x7 : Int} (h0 : ((((x0 + (6 : Int)) + (8 : Int)) + (0 : Int)) < x1)) (h1 : (((0 : Int) ≤ x2) ∧ ((x2 ≤ x3) ∧ (x3 ≤ (65536 : Int))))) (h2 : (x4 = (6 : Int))) (h3 : (x5 = (((x0 + (6 : Int)) + (8 : Int)) + (0 : Int)))) (h4 : (((-(2147483648 : Int)) ≤ x6) ∧ (x6 ≤ (2147483647 : Int)))) (h5 : (((-(2147483648 : Int)) ≤ x7) ∧ (x7 ≤ (2147483647 : Int)))) : ((x4 = (0 : Int)) → (((x0 + (7 : Int)) ≤ x5) ∧ ((x5 ≤ x1) ∧ ((x7 = x2) ∧ (((65536 : Int) ≤ x6) ∧ (x6 ≤ (4194304 : Int))))))) := by omega
theorem q_3295 {x0 x1 x2 : Int} (h0 : ((6 : Int) ≤ (x0 - x1))) (h1 : (((0 : Int) ≤ x0) ∧ ((x0 ≤ x2) ∧ (x2 ≤ (65536 : Int))))) (h2 : (((0 : Int) ≤ x1) ∧ ((x1 + (4 : Int)) ≤ x0))) : (inr (((x1 + (6 : Int)) + (8 : Int)) + (4 : Int))) := by omega
theorem q_3296 {x0 x1 x2 : Int} (h0 : ((((x0 + (6 : Int)) + (8 : Int)) + (4 : Int)) < x1)) (h1 : (((0 : Int) ≤ x1) ∧ ((x1 ≤ x2) ∧ (x2 ≤ (65536 : Int))))) (h2 : (((0 : Int) ≤ x0) ∧ ((x0 + (4 : Int)) ≤ x1))) : (((0 : Int) ≤ (((x0 + (6 : Int)) + (8 : Int)) + (4 : Int))) ∧ ((((x0 + (6 : Int)) + (8 : Int)) + (4 : Int)) < x2)) := by omega
theorem q_3297 {x0 x1 x2 : Int} (h0 : ((((x0 + (6 : Int)) + (8 : Int)) + (4 : Int)) < x1)) (h1 : (((0 : Int) ≤ x1) ∧ ((x1 ≤ x2) ∧ (x2 ≤ (65536 : Int))))) (h2 : (((0 : Int) ≤ x0) ∧ ((x0 + (4 : Int)) ≤ x1))) : (((0 : Int) ≤ (x0 + (4 : Int))) ∧ (((x0 + (4 : Int)) ≤ (((x0 + (6 : Int)) + (8 : Int)) + (4 : Int))) ∧ ((((x0 + (6 : Int)) + (8 : Int)) + (4 : Int)) ≤ x2))) := by omega
theorem q_3298 {x0 x1 x2 : Int} (h0 : ((((x0 + (6 : Int)) + (8 : Int)) + (4 : Int)) < x1)) (h1 : (((0 : Int) ≤ x1) ∧ ((x1 ≤ x2) ∧ (x2 ≤ (65536 : Int))))) (h2 : (((0 : Int) ≤ x0) ∧ ((x0 + (4 : Int)) ≤ x1))) : (inr (((x0 + (6 : Int)) + (8 : Int)) + (4 : Int))) := by omega
theorem q_3299 {x0 x1 x2 : Int} (h0 : ((((x0 + (6 : Int)) + (8 : Int)) + (4 : Int)) < x1)) (h1 : (((0 : Int) ≤ x1) ∧ ((x1 ≤ x2) ∧ (x2 ≤ (65536 : Int))))) (h2 : (((0 : Int) ≤ x0) ∧ ((x0 + (4 : Int)) ≤ x1))) : (inr (x0 + (4 : Int))) := by omega
theorem q_3300 {x0 x1 x2 : Int} (h0 : ((((x0 + (6 : Int)) + (8 : Int)) + (4 : Int)) < x1)) (h1 : (((0 : Int) ≤ x1) ∧ ((x1 ≤ x2) ∧ (x2 ≤ (65536 : Int))))) (h2 : (((0 : Int) ≤ x0) ∧ ((x0 + (4 : Int)) ≤ x1))) : (inr ((((x0 + (6 : Int)) + (8 : Int)) + (4 : Int)) + (1 : Int))) := by omega
theorem q_3301 {x0 x1 x2 x3 : Int} (h0 : ((((x0 + (6 : Int)) + (8 : Int)) + (4 : Int)) < x1)) : ((x2 = (0 : Int)) → ((x3 = (0 : Int)) ∨ ((x0 + (14 : Int)) ≤ x1))) := by omega
theorem q_3302 {x0 x1 x2 x3 x4 x5 x6 x7 : Int} (h0 : ((((x0 + (6 : Int)) + (8 : Int)) + (4 : Int)) < x1)) (h1 : (((0 : Int) ≤ x2) ∧ ((x2 ≤ x3) ∧ (x3 ≤ (65536 : Int))))) (h2 : (x4 = (6 : Int))) (h3 : (x5 = (((x0 + (6 : Int)) + (8 : Int)) + (4 : Int)))) (h4 : (((-(2147483648 : Int)) ≤ x6) ∧ (x6 ≤ (2147483647 : Int)))) (h5 : (((-(2147483648 : Int)) ≤ x7) ∧ (x7 ≤ (2147483647 : Int)))) : ((x4 = (0 : Int)) → (((x0 + (7 : Int)) ≤ x5) ∧ ((x5 ≤ x1) ∧ ((x7 = x2) ∧ (((65536 : Int) ≤ x6) ∧ (x6 ≤ (4194304 : Int))))))) := by omega
theorem q_3303 {x0 x1 x2 x3 x4 x5 x6 x7 : Int} (h0 : ((5 : Int) ≤ (x0 - x1))) (h1 : (((0 : Int) ≤ x2) ∧ ((x2 ≤ x3) ∧ (x3 ≤ (65536 : Int))))) (h2 : (x4 = (1 : Int))) (h3 : (x5 = x0)) (h4 : (((-(2147483648 : Int)) ≤ x6) ∧ (x6 ≤ (2147483647 : Int)))) (h5 : (((-(2147483648 : Int)) ≤ x7) ∧ (x7 ≤ (2147483647 : Int)))) : ((x4 = (0 : Int)) → (((x1 + (7 : Int)) ≤ x5) ∧ ((x5 ≤ x0) ∧ ((x7 = x2) ∧ (((65536 : Int) ≤ x6) ∧ (x6 ≤ (4194304 : Int))))))) := by omega
theorem q_3304 {x0 x1 x2 : Int} (h0 : ((5 : Int) ≤ (x0 - x1))) (h1 : (((0 : Int) ≤ x0) ∧ ((x0 ≤ x2) ∧ (x2 ≤ (65536 : Int))))) (h2 : (((0 : Int) ≤ x1) ∧ ((x1 + (4 : Int)) ≤ x0))) : (inr (x1 + (4 : Int))) := by omega
theorem q_3305 {x0 x1 x2 x3 x4 x5 x6 x7 : Int} (h0 : ((5 : Int) ≤ (x0 - x1))) (h1 : (((0 : Int) ≤ x2) ∧ ((x2 ≤ x3) ∧ (x3 ≤ (65536 : Int))))) (h2 : (x4 = (5 : Int))) (h3 : (x5 = (x1 + (4 : Int)))) (h4 : (((-(2147483648 : Int)) ≤ x6) ∧ (x6 ≤ (2147483647 : Int)))) (h5 : (((-(2147483648 : Int)) ≤ x7) ∧ (x7 ≤ (2147483647 : Int)))) : ((x4 = (0 : Int)) → (((x1 + (7 : Int)) ≤ x5) ∧ ((x5 ≤ x0) ∧ ((x7 = x2) ∧ (((65536 : Int) ≤ x6) ∧ (x6 ≤ (4194304 : Int))))))) := by omega
theorem q_3306 {x0 x1 x2 x3 x4 x5 x6 x7 : Int} (h0 : (((0 : Int) ≤ x0) ∧ ((x0 + (4 : Int)) ≤ x1))) (h1 : (((0 : Int) ≤ x2) ∧ ((x2 ≤ x3) ∧ (x3 ≤ (65536 : Int))))) (h2 : (x4 = (1 : Int))) (h3 : (x5 = x1)) (h4 : (((-(2147483648 : Int)) ≤ x6) ∧ (x6 ≤ (2147483647 : Int)))) (h5 : (((-(2147483648 : Int)) ≤ x7) ∧ (x7 ≤ (2147483647 : Int)))) : ((x4 = (0 : Int)) → (((x0 + (7 : Int)) ≤ x5) ∧ ((x5 ≤ x1) ∧ ((x7 = x2) ∧ (((65536 : Int) ≤ x6) ∧ (x6 ≤ (4194304 : Int))))))) := by omega
theorem q_3307 {x0 x1 x2 x3 : Int} (h0 : (x0 = (4 : Int))) : ((x0 = (0 : Int)) → ((x1 = (0 : Int)) ∨ ((x2 + (14 : Int)) ≤ x3))) := by omega
theorem q_3308 {x0 x1 x2 x3 x4 x5 x6 x7 : Int} (h0 : (((0 : Int) ≤ x0) ∧ ((x0 + (4 : Int)) ≤ x1))) (h1 : (((0 : Int) ≤ x2) ∧ ((x2 ≤ x3) ∧ (x3 ≤ (65536 : Int))))) (h2 : (x4 = (4 : Int))) (h3 : (x5 = x0)) (h4 : (((-(2147483648 : Int)) ≤ x6) ∧ (x6 ≤ (2147483647 : Int)))) (h5 : (((-(2147483648 : Int)) ≤ x7) ∧ (x7 ≤ (2147483647 : Int)))) : ((x4 = (0 : Int)) → (((x0 + (7 : Int)) ≤ x5) ∧ ((x5 ≤ x1) ∧ ((x7 = x2) ∧ (((65536 : Int) ≤ x6) ∧ (x6 ≤ (4194304 : Int))))))) := by omega
theorem q_3309 {x0 x1 x2 : Int} (h0 : (((0 : Int) ≤ x0) ∧ ((x0 ≤ x1) ∧ (x1 ≤ (65536 : Int))))) (h1 : ((x0 ≤ x2) ∧ (x2 ≤ (65536 : Int)))) : (inr (x2 - x0)) := by omega
theorem q_3310 {x0 x1 x2 : Int} (h0 : (((0 : Int) ≤ x0) ∧ (((0 : Int) ≤ x1) ∧ (((x0 + x1) ≤ x2) ∧ (x2 ≤ (65536 : Int)))))) : ((x1 < (0 : Int)) ∨ (((0 : Int) ≤ x0) ∧ ((x0 + x1) ≤ x2))) := by omega
theorem q_3311 {x0 x1 x2 x3 x4 : Int} (h0 : (x0 ≤ (x1 - x2))) : ((((0 : Int) = (3 : Int)) ∧ (((x1 - x2) < x0) ∧ (x3 = (x4 + (x1 - x2))))) ∨ (((0 : Int) = (0 : Int)) ∧ ((x0 ≤ (x1 - x2)) ∧ (x3 = x3)))) := by omega
theorem q_3312 {x0 x1 x2 x3 x4 x5 : Int} (h0 : (x0 ≤ (x1 - x2))) (h1 : (((0 : Int) ≤ x3) ∧ (((0 : Int) ≤ x0) ∧ (((x3 + x0) ≤ x4) ∧ (x4 ≤ (65536 : Int)))))) (h2 : ((x2 ≤ x1) ∧ (x1 ≤ (65536 : Int)))) (h3 : (((x5 = (x2 + x0)) ∧ ((0 : Int) ≤ x0)) ∨ ((x5 = x2) ∧ ((x0 < (0 : Int)) ∨ ((65536 : Int) < (x2 + x0)))))) : ((x2 ≤ x5) ∧ (x5 ≤ x1)) := by omega
theorem q_3313 {x0 x1 x2 x3 x4 : Int} (h0 : ((x0 - x1) < x2)) (h1 : (((0 : Int) ≤ x3) ∧ (((0 : Int) ≤ x2) ∧ (((x3 + x2) ≤ x4) ∧ (x4 ≤ (65536 : Int)))))) (h2 : ((x1 ≤ x0) ∧ (x0 ≤ (65536 : Int)))) : (inr (x3 + (x0 - x1))) := by omega
theorem q_3314 {x0 x1 x2 x3 x4 x5 x6 : Int} (h0 : ((x0 - x1) < x2)) (h1 : (x3 = (3 : Int))) (h2 : (x4 = (x5 + (x0 - x1)))) : (((x3 = (3 : Int)) ∧ (((x0 - x1) < x2) ∧ (x4 = (x5 + (x0 - x1))))) ∨ ((x3 = (0 : Int)) ∧ ((x2 ≤ (x0 - x1)) ∧ (x4 = x6)))) := by omega
theorem q_3315 {x0 x1 : Int} (h0 : ((x0 ≤ x1) ∧ (x1 ≤ (65536 : Int)))) : ((x0 ≤ x0) ∧ (x0 ≤ x1)) := by omega
theorem q_3316 {x0 x1 x2 x3 : Int} (h0 : (((0 : Int) ≤ x0) ∧ ((x0 ≤ x1) ∧ (x1 ≤ (65536 : Int))))) (h1 : (((0 : Int) ≤ x2) ∧ (x2 ≤ x0))) (h2 : ((x2 ≤ x3) ∧ (x3 ≤ x0))) : (inr (x0 - x3)) := by omega
theorem q_3317 {x0 x1 x2 x3 : Int} (h0 : ((4 : Int) ≤ (x0 - x1))) (h1 : (((0 : Int) ≤ x0) ∧ ((x0 ≤ x2) ∧ (x2 ≤ (65536 : Int))))) (h2 : (((0 : Int) ≤ x3) ∧ (x3 ≤ x0))) (h3 : ((x3 ≤ x1) ∧ (x1 ≤ x0))) : (((0 : Int) ≤ x1) ∧ ((x1 + (4 : Int)) ≤ x2)) := by omega
theorem q_3318 : (inr (2147483647 : Int)) := by omega
theorem q_3319 {x0 : Int} (h0 : (((65536 : Int) ≤ x0) ∧ (x0 ≤ (4194304 : Int)))) (h1 : (((-(2147483648 : Int)) ≤ x0) ∧ (x0 ≤ (2147483647 : Int)))) : (inr x0) := by omega
theorem q_3320 {x0 x1 : Int} (h0 : (inr x0)) (h1 : (x0 = (x1 % (2147483648 : Int)))) : (inr (x0 + (0 : Int))) := by omega
theorem q_3321 {x0 x1 x2 x3 : Int} (h0 : ((4 : Int) ≤ (x0 - x1))) (h1 : (((0 : Int) ≤ x0) ∧ ((x0 ≤ x2) ∧ (x2 ≤ (65536 : Int))))) (h2 : (((0 : Int) ≤ x3) ∧ (x3 ≤ x0))) (h3 : ((x3 ≤ x1) ∧ (x1 ≤ x0))) : (inr (x0 - (x1 + (4 : Int)))) := by omega
theorem q_3322 {x0 x1 : Int} (h0 : (((0 : Int) ≤ x0) ∧ ((x0 ≤ (65536 : Int)) ∧ (x1 ≤ x0)))) : (inr x0) := by omega
theorem q_3323 {x0 x1 x2 x3 x4 x5 : Int} (h0 : ((((x0 + x1) < x2) ∧ (x3 = (x0 + x1))) ∨ ((¬ ((x0 + x1) < x2)) ∧ (x3 = x2)))) (h1 : (((0 : Int) ≤ x2) ∧ ((x2 ≤ (65536 : Int)) ∧ (x4 ≤ x2)))) (h2 : (((65536 : Int) ≤ x1) ∧ (x1 ≤ (4194304 : Int)))) (h3 : (((0 : Int) ≤ x0) ∧ ((x0 ≤ x5) ∧ (x5 ≤ (65536 : Int))))) : (x3 = x2) := by omega
theorem q_3324 {x0 x1 x2 x3 : Int} (h0 : (x0 = (0 : Int))) (h1 : (x1 = x0)) : (((x2 = x2) ∧ (x1 = (0 : Int))) ∨ ((x2 = x3) ∧ (x1 ≠ (0 : Int)))) := by omega
theorem q_3325 {x0 x1 x2 x3 x4 : Int} (h0 : (x0 = x1)) (h1 : ((x2 ≤ x3) ∧ (x3 ≤ x1))) (h2 : (x4 = (0 : Int))) : ((x4 = (0 : Int)) ∧ (x3 ≤ x0)) := by omega
theorem q_3326 {x0 x1 x2 : Int} (h0 : (((0 : Int) ≤ x0) ∧ ((x0 ≤ (65536 : Int)) ∧ (x1 ≤ x0)))) (h1 : (x2 = x0)) : (((0 : Int) ≤ x2) ∧ (x2 ≤ (65536 : Int))) := by omega
theorem q_3327 {x0 x1 x2 x3 : Int} (h0 : (((0 : Int) ≤ x0) ∧ (x0 ≤ x1))) (h1 : ((x1 ≤ x2) ∧ (x2 ≤ x3))) : (((0 : Int) ≤ x0) ∧ (x0 ≤ x2)) := by omega
theorem q_3328 {x0 x1 x2 x3 x4 x5 : Int} (h0 : ((x0 + (0 : Int)) ≤ (x1 - (x2 + (4 : Int))))) (h1 : (((0 : Int) ≤ x1) ∧ ((x1 ≤ x3) ∧ (x3 ≤ (65536 : Int))))) (h2 : (((0 : Int) ≤ x4) ∧ (x4 ≤ x1))) (h3 : (x0 = (x5 % (2147483648 : Int)))) (h4 : ((x4 ≤ x2) ∧ (x2 ≤ x1))) : (((0 : Int) ≤ (x2 + (4 : Int))) ∧ (((x2 + (4 : Int)) ≤ ((x2 + (4 : Int)) + x0)) ∧ ((((x2 + (4 : Int)) + x0) ≤ x3) ∧ (x3 ≤ (65536 : Int))))) := by omega
theorem q_3329 {x0 x1 x2 : Int} (h0 : (((0 : Int) ≤ x0) ∧ ((x0 ≤ (65536 : Int)) ∧ (x1 ≤ x0)))) (h1 : (x2 = x0)) : (inr x2) := by omega
theorem q_3330 {x0 x1 x2 x3 x4 : Int} (h0 : ((x0 + (0 : Int)) ≤ (x1 - (x2 + (4 : Int))))) (h1 : (((0 : Int) ≤ x1) ∧ ((x1 ≤ x3) ∧ (x3 ≤ (65536 : Int))))) (h2 : (x0 = (x4 % (2147483648 : Int)))) (h3 : (inr x2)) : (inr ((x2 + (4 : Int)) + x0)) := by omega
theorem q_3331 {x0 x1 x2 : Int} (h0 : ((4 : Int) ≤ (x0 - x1))) (h1 : (((0 : Int) ≤ x0) ∧ ((x0 ≤ x2) ∧ (x2 ≤ (65536 : Int))))) (h2 : (inr x1)) : (inr (x1 + (4 : Int))) := by omega
theorem q_3332 {x0 x1 x2 x3 : Int} (h0 : (x0 = (x1 % (2147483648 : Int)))) (h1 : (x2 ≤ x3)) : ((x2 + (1 : Int)) ≤ (((x3 + (4 : Int)) + x0) + (0 : Int))) := by omega
theorem q_3333 {x0 x1 x2 x3 x4 : Int} (h0 : (x0 = x1)) (h1 : ((x2 ≤ x3) ∧ (x3 ≤ x1))) (h2 : (x3 ≤ x4)) (h3 : ((x4 ≤ x0) ∨ (x4 = x3))) : ((x2 ≤ x4) ∧ (x4 ≤ x1)) := by omega
theorem q_3334 {x0 x1 x2 x3 x4 : Int} (h0 : ((x0 + (0 : Int)) ≤ (x1 - (x2 + (4 : Int))))) (h1 : (x0 = (x3 % (2147483648 : Int)))) (h2 : ((x4 ≤ x2) ∧ (x2 ≤ x1))) : ((x4 ≤ (((x2 + (4 : Int)) + x0) + (0 : Int))) ∧ ((((x2 + (4 : Int)) + x0) + (0 : Int)) ≤ x1)) := by omega
theorem q_3335 {x0 x1 x2 : Int} (h0 : (x0 ≤ x1)) (h1 : (((0 : Int) ≤ x1) ∧ ((x1 ≤ x2) ∧ (x2 ≤ (65536 : Int))))) (h2 : (inr x0)) : (inr (x0 + (1 : Int))) := by omega
theorem q_3336 {x0 x1 x2 x3 x4 : Int} (h0 : ((x0 + (0 : Int)) ≤ (x1 - (x2 + (4 : Int))))) (h1 : (((0 : Int) ≤ x1) ∧ ((x1 ≤ x3) ∧ (x3 ≤ (65536 : Int))))) (h2 : (x0 = (x4 % (2147483648 : Int)))) (h3 : (inr x2)) : (inr (((x2 + (4 : Int)) + x0) + (0 : Int))) := by omega
theorem q_3337 {x0 : Int} (h0 : (((0 : Int) ≤ x0) ∧ (x0 ≤ (3 : Int)))) : (((0 : Int) ≤ x0) ∧ (x0 ≤ (9 : Int))) := by omega
theorem q_3338 {x0 x1 x2 x3 : Int} (h0 : (inr x0)) (h1 : (((0 : Int) ≤ x1) ∧ ((x1 ≤ x2) ∧ (x2 ≤ (65536 : Int))))) (h2 : (((-(2147483648 : Int)) ≤ x3) ∧ (x3 ≤ (2147483647 : Int)))) : (((9 : Int) = (0 : Int)) → (((x0 + (4 : Int)) ≤ x3) ∧ (x3 ≤ x1))) := by omega
theorem q_3339 : (((0 : Int) ≤ (9 : Int)) ∧ ((9 : Int) ≤ (9 : Int))) := by omega
theorem q_3340 {x0 x1 x2 x3 : Int} (h0 : (((0 : Int) ≤ x0) ∧ ((x0 ≤ (65536 : Int)) ∧ (x1 ≤ x0)))) (h1 : (x2 = x0)) (h2 : ((x1 ≤ x3) ∧ (x3 ≤ x0))) : ((x3 ≤ x2) ∧ (x2 ≤ (65536 : Int))) := by omega
theorem q_3341 {x0 x1 x2 x3 x4 x5 : Int} (h0 : ((x0 + (0 : Int)) ≤ (x1 - (x2 + (4 : Int))))) (h1 : (((0 : Int) ≤ x1) ∧ ((x1 ≤ x3) ∧ (x3 ≤ (65536 : Int))))) (h2 : (((0 : Int) ≤ x4) ∧ (x4 ≤ x1))) (h3 : (x0 = (x5 % (2147483648 : Int)))) (h4 : ((x4 ≤ x2) ∧ (x2 ≤ x1))) : (((0 : Int) ≤ (x2 + (4 : Int))) ∧ (((0 : Int) ≤ x0) ∧ ((((x2 + (4 : Int)) + x0) ≤ x3) ∧ (x3 ≤ (65536 : Int))))) := by omega
theorem q_3342 {x0 x1 x2 x3 x4 : Int} (h0 : (x0 = x1)) (h1 : ((x2 ≤ x3) ∧ (x3 ≤ x1))) (h2 : ((x3 ≤ x4) ∧ (x4 ≤ x0))) : ((x2 ≤ x4) ∧ (x4 ≤ x1)) := by omega
theorem q_3343 {x0 x1 : Int} (h0 : (((0 : Int) ≤ x0) ∧ ((x0 ≤ x1) ∧ (x1 ≤ (65536 : Int))))) : (((0 : Int) ≤ x0) ∧ (x0 ≤ x0)) := by omega
theorem q_3344 {x0 x1 x2 x3 x4 x5 : Int} (h0 : ((x0 + (0 : Int)) ≤ (x1 - (x2 + (4 : Int))))) (h1 : (((0 : Int) ≤ x1) ∧ ((x1 ≤ x3) ∧ (x3 ≤ (65536 : Int))))) (h2 : (((0 : Int) ≤ x4) ∧ (x4 ≤ x1))) (h3 : (x0 = (x5 % (2147483648 : Int)))) (h4 : ((x4 ≤ x2) ∧ (x2 ≤ x1))) : (((0 : Int) ≤ (x2 + (4 : Int))) ∧ (((x2 + (4 : Int)) ≤ ((x2 + (4 : Int)) + x0)) ∧ (((x2 + (4 : Int)) + x0) ≤ x3))) := by omega
theorem q_3345 {x0 x1 x2 x3 x4 x5 : Int} (h0 : ((x0 + (0 : Int)) ≤ (x1 - (x2 + (4 : Int))))) (h1 : (inr x3)) (h2 : (x4 = (8 : Int))) (h3 : (x5 = ((x2 + (4 : Int)) + x0))) (h4 : (((-(2147483648 : Int)) ≤ x5) ∧ (x5 ≤ (2147483647 : Int)))) : ((x4 = (0 : Int)) → (((x3 + (4 : Int)) ≤ x5) ∧ (x5 ≤ x1))) := by omega
theorem q_3346 {x0 : Int} (h0 : (x0 = (8 : Int))) : (((0 : Int) ≤ x0) ∧ (x0 ≤ (9 : Int))) := by omega
theorem q_3347 {x0 x1 x2 x3 : Int} (h0 : (((0 : Int) ≤ x0) ∧ (x0 ≤ x1))) (h1 : (x2 = (1 : Int))) (h2 : (x3 = x1)) : ((x2 = (0 : Int)) → (((x0 + (4 : Int)) ≤ x3) ∧ (x3 ≤ x1))) := by omega
theorem q_3348 {x0 : Int} (h0 : (x0 = (1 : Int))) : (((0 : Int) ≤ x0) ∧ (x0 ≤ (9 : Int))) := by omega
theorem q_3349 {x0 x1 x2 x3 x4 x5 : Int} (h0 : ((x0 + (4 : Int)) ≤ (x1 - (x2 + (4 : Int))))) (h1 : (((0 : Int) ≤ x1) ∧ ((x1 ≤ x3) ∧ (x3 ≤ (65536 : Int))))) (h2 : (((0 : Int) ≤ x4) ∧ (x4 ≤ x1))) (h3 : (x0 = (x5 % (2147483648 : Int)))) (h4 : ((x4 ≤ x2) ∧ (x2 ≤ x1))) : (((0 : Int) ≤ (x2 + (4 : Int))) ∧ (((x2 + (4 : Int)) ≤ ((x2 + (4 : Int)) + x0)) ∧ ((((x2 + (4 : Int)) + x0) ≤ x3) ∧ (x3 ≤ (65536 : Int))))) := by omega
theorem q_3350 {x0 x1 x2 x3 x4 : Int} (h0 : ((x0 + (4 : Int)) ≤ (x1 - (x2 + (4 : Int))))) (h1 : (((0 : Int) ≤ x1) ∧ ((x1 ≤ x3) ∧ (x3 ≤ (65536 : Int))))) (h2 : (x0 = (x4 % (2147483648 : Int)))) (h3 : (inr x2)) : (inr ((x2 + (4 : Int)) + x0)) := by omega
theorem q_3351 {x0 x1 x2 x3 : Int} (h0 : (x0 = (x1 % (2147483648 : Int)))) (h1 : (x2 ≤ x3)) : ((x2 + (1 : Int)) ≤ (((x3 + (4 : Int)) + x0) + (4 : Int))) := by omega
theorem q_3352 {x0 x1 x2 x3 x4 : Int} (h0 : ((x0 + (4 : Int)) ≤ (x1 - (x2 + (4 : Int))))) (h1 : (x0 = (x3 % (2147483648 : Int)))) (h2 : ((x4 ≤ x2) ∧ (x2 ≤ x1))) : ((x4 ≤ (((x2 + (4 : Int)) + x0) + (4 : Int))) ∧ ((((x2 + (4 : Int)) + x0) + (4 : Int)) ≤ x1)) := by omega
theorem q_3353 {x0 x1 x2 x3 x4 : Int} (h0 : ((x0 + (4 : Int)) ≤ (x1 - (x2 + (4 : Int))))) (h1 : (((0 : Int) ≤ x1) ∧ ((x1 ≤ x3) ∧ (x3 ≤ (65536 : Int))))) (h2 : (x0 = (x4 % (2147483648 : Int)))) (h3 : (inr x2)) : (inr (((x2 + (4 : Int)) + x0) + (4 : Int))) := by omega
theorem q_3354 {x0 x1 x2 x3 x4 x5 : Int} (h0 : ((x0 + (4 : Int)) ≤ (x1 - (x2 + (4 : Int))))) (h1 : (((0 : Int) ≤ x1) ∧ ((x1 ≤ x3) ∧ (x3 ≤ (65536 : Int))))) (h2 : (((0 : Int) ≤ x4) ∧ (x4 ≤ x1))) (h3 : (x0 = (x5 % (2147483648 : Int)))) (h4 : ((x4 ≤ x2) ∧ (x2 ≤ x1))) : (((0 : Int) ≤ (x2 + (4 : Int))) ∧ (((0 : Int) ≤ x0) ∧ ((((x2 + (4 : Int)) + x0) ≤ x3) ∧ (x3 ≤ (65536 : Int))))) := by omega
theorem q_3355 {x0 x1 x2 x3 x4 x5 : Int} (h0 : ((x0 + (4 : Int)) ≤ (x1 - (x2 + (4 : Int))))) (h1 : (((0 : Int) ≤ x1) ∧ ((x1 ≤ x3) ∧ (x3 ≤ (65536 : Int))))) (h2 : (((0 : Int) ≤ x4) ∧ (x4 ≤ x1))) (h3 : (x0 = (x5 % (2147483648 : Int)))) (h4 : ((x4 ≤ x2) ∧ (x2 ≤ x1))) : (((0 : Int) ≤ ((x2 + (4 : Int)) + x0)) ∧ ((((x2 + (4 : Int)) + x0) + (4 : Int)) ≤ x3)) := by omega
theorem q_3356 {x0 x1 x2 x3 x4 x5 : Int} (h0 : ((x0 + (4 : Int)) ≤ (x1 - (x2 + (4 : Int))))) (h1 : (((0 : Int) ≤ x1) ∧ ((x1 ≤ x3) ∧ (x3 ≤ (65536 : Int))))) (h2 : (((0 : Int) ≤ x4) ∧ (x4 ≤ x1))) (h3 : (x0 = (x5 % (2147483648 : Int)))) (h4 : ((x4 ≤ x2) ∧ (x2 ≤ x1))) : (((0 : Int) ≤ (x2 + (4 : Int))) ∧ (((x2 + (4 : Int)) ≤ ((x2 + (4 : Int)) + x0)) ∧ (((x2 + (4 : Int)) + x0) ≤ x3))) := by omega
theorem q_3357 {x0 x1 x2 x3 x4 x5 : Int} (h0 : ((x0 + (4 : Int)) ≤ (x1 - (x2 + (4 : Int))))) (h1 : (inr x3)) (h2 : (x4 = (8 : Int))) (h3 : (x5 = ((x2 + (4 : Int)) + x0))) (h4 : (((-(2147483648 : Int)) ≤ x5) ∧ (x5 ≤ (2147483647 : Int)))) : ((x4 = (0 : Int)) → (((x3 + (4 : Int)) ≤ x5) ∧ (x5 ≤ x1))) := by omega
theorem q_3358 {x0 x1 x2 x3 x4 : Int} (h0 : ((4 : Int) ≤ (x0 - x1))) (h1 : ((x2 ≤ x1) ∧ (x1 ≤ x0))) (h2 : (x3 = (7 : Int))) (h3 : (x4 = x1)) : ((x3 = (0 : Int)) → (((x2 + (4 : Int)) ≤ x4) ∧ (x4 ≤ x0))) := by omega
theorem q_3359 {x0 : Int} (h0 : (x0 = (7 : Int))) : (((0 : Int) ≤ x0) ∧ (x0 ≤ (9 : Int))) := by omega
theorem q_3360 {x0 x1 x2 x3 x4 : Int} (h0 : ((4 : Int) ≤ (x0 - x1))) (h1 : ((x2 ≤ x1) ∧ (x1 ≤ x0))) (h2 : (x3 = (x1 + (4 : Int)))) : ((x4 = (0 : Int)) → (((x2 + (4 : Int)) ≤ x3) ∧ (x3 ≤ x0))) := by omega
theorem q_3361 {x0 : Int} (h0 : (x0 = (0 : Int))) : (((0 : Int) ≤ x0) ∧ (x0 ≤ (9 : Int))) := by omega
theorem q_3362 {x0 x1 x2 : Int} (h0 : (((0 : Int) ≤ x0) ∧ ((x0 ≤ x1) ∧ (x1 ≤ (65536 : Int))))) (h1 : (((0 : Int) ≤ x2) ∧ (x2 ≤ x0))) : (((0 : Int) ≤ (x0 - x2)) ∧ ((x0 - x2) < (9223372036854775808 : Int))) := by omega
theorem q_3363 {x0 x1 x2 x3 x4 : Int} (h0 : (((0 : Int) ≤ x0) ∧ (x0 ≤ x1))) (h1 : ((x2 = x0) ∨ ((x2 = (x0 + (4 : Int))) ∧ (x2 ≤ x1)))) (h2 : (x3 = x2)) : ((x4 = (0 : Int)) → ((x0 ≤ x3) ∧ (x3 ≤ x1))) := by omega
theorem q_3364 {x0 : Int} (h0 : (x0 = (0 : Int))) : (((0 : Int) ≤ x0) ∧ (x0 ≤ (11 : Int))) := by omega
theorem q_3365 {x0 x1 x2 : Int} (h0 : (((0 : Int) ≤ x0) ∧ ((x0 ≤ x1) ∧ (x1 ≤ (65536 : Int))))) (h1 : (((0 : Int) ≤ x2) ∧ (x2 ≤ x0))) : (inrJ (x0 - x2)) := by omega
theorem q_3366 {x0 x1 x2 x3 x4 : Int} (h0 : (inr x0)) (h1 : (((0 : Int) ≤ x1) ∧ ((x1 ≤ x2) ∧ (x2 ≤ (65536 : Int))))) (h2 : (x3 = (11 : Int))) (h3 : (((-(2147483648 : Int)) ≤ x4) ∧ (x4 ≤ (2147483647 : Int)))) : ((x3 = (0 : Int)) → ((x0 ≤ x4) ∧ (x4 ≤ x1))) := by omega
theorem q_3367 {x0 : Int} (h0 : (x0 = (11 : Int))) : (((0 : Int) ≤ x0) ∧ (x0 ≤ (11 : Int))) := by omega
theorem q_3368 {x0 x1 : Int} : ((x0 = x0) ∨ ((x0 = (x0 + (4 : Int))) ∧ (x0 ≤ x1))) := by omega
theorem q_3369 {x0 x1 x2 : Int} (h0 : (((0 : Int) ≤ x0) ∧ ((x0 ≤ x1) ∧ (x1 ≤ (65536 : Int))))) (h1 : (((0 : Int) ≤ x2) ∧ (x2 ≤ x0))) : (((0 : Int) ≤ x2) ∧ ((x2 ≤ x0) ∧ (x0 ≤ x1))) := by omega
theorem q_3370 {x0 x1 : Int} (h0 : ((4 : Int) ≤ (x0 - x1))) : (((x1 + (4 : Int)) = x1) ∨ (((x1 + (4 : Int)) = (x1 + (4 : Int))) ∧ ((x1 + (4 : Int)) ≤ x0))) := by omega
theorem q_3371 {x0 x1 x2 : Int} (h0 : ((4 : Int) ≤ (x0 - x1))) (h1 : (((0 : Int) ≤ x0) ∧ ((x0 ≤ x2) ∧ (x2 ≤ (65536 : Int))))) (h2 : (((0 : Int) ≤ x1) ∧ (x1 ≤ x0))) : (inr (x1 + (4 : Int))) := by omega
theorem q_3372 {x0 x1 x2 x3 : Int} (h0 : ((4 : Int) ≤ (x0 - x1))) (h1 : (x2 = x1)) : ((x3 = (0 : Int)) → ((x1 ≤ x2) ∧ (x2 ≤ x0))) := by omega
theorem q_3373 {x0 : Int} (h0 : (x0 = (10 : Int))) : (((0 : Int) ≤ x0) ∧ (x0 ≤ (11 : Int))) := by omega
theorem q_3374 {x0 x1 x2 x3 : Int} (h0 : (((0 : Int) ≤ x0) ∧ (x0 ≤ x1))) (h1 : (x2 = x1)) : ((x3 = (0 : Int)) → ((x0 ≤ x2) ∧ (x2 ≤ x1))) := by omega
theorem q_3375 {x0 : Int} (h0 : (x0 = (1 : Int))) : (((0 : Int) ≤ x0) ∧ (x0 ≤ (11 : Int))) := by omega
theorem q_3376 {x0 x1 x2 x3 x4 : Int} (h0 : ((x0 = x1) ∧ ((x2 = x3) ∧ (x4 = x1)))) : ((x2 = x3) ∧ (x0 = x1)) := by omega
theorem q_3377 {x0 x1 : Int} (h0 : ((x0 = (0 : Int)) ∧ (x1 = (0 : Int)))) : (x1 = (0 : Int)) := by omega
theorem q_3378 {x0 x1 x2 x3 x4 x5 : Int} (h0 : (((0 : Int) ≤ x0) ∧ ((x0 ≤ x1) ∧ (x1 ≤ (65536 : Int))))) (h1 : ((x2 = x0) ∧ ((x3 = x4) ∧ (x5 = x0)))) : (((0 : Int) ≤ x2) ∧ (x2 ≤ x1)) := by omega
theorem q_3379 {x0 x1 x2 : Int} (h0 : (((0 : Int) ≤ x0) ∧ (x0 ≤ (65536 : Int)))) (h1 : ((x1 = (0 : Int)) ∧ (x2 = (0 : Int)))) : (x1 ≤ x0) := by omega
theorem q_3380 {x0 x1 x2 x3 x4 x5 : Int} (h0 : (((0 : Int) ≤ x0) ∧ ((x0 ≤ x1) ∧ (x1 ≤ (65536 : Int))))) (h1 : ((x2 = x0) ∧ ((x3 = x4) ∧ (x5 = x0)))) : (((0 : Int) ≤ (0 : Int)) ∧ ((0 : Int) ≤ x2)) := by omega
theorem q_3381 {x0 x1 x2 x3 x4 x5 : Int} (h0 : ((x0 = x1) ∧ (x2 = x3))) (h1 : (x4 = x2)) : ((x5 ≠ (0 : Int)) ∨ (x4 = x3)) := by omega
theorem q_3382 {x0 x1 : Int} (h0 : (x0 < x1)) (h1 : (((0 : Int) ≤ x0) ∧ (x0 ≤ x1))) (h2 : (((-(2147483648 : Int)) ≤ x1) ∧ (x1 ≤ (2147483647 : Int)))) : (inr (x1 - x0)) := by omega
theorem q_3383 {x0 x1 x2 x3 : Int} (h0 : ((4 : Int) ≤ (x0 - x1))) (h1 : (((0 : Int) ≤ x2) ∧ ((x2 ≤ x3) ∧ (x3 ≤ (65536 : Int))))) (h2 : (((0 : Int) ≤ x1) ∧ (x1 ≤ x0))) (h3 : (((0 : Int) ≤ x0) ∧ (x0 ≤ x3))) (h4 : (((0 : Int) ≤ x3) ∧ (x3 ≤ (1000000 : Int)))) : (((0 : Int) ≤ x1) ∧ (((0 : Int) ≤ x0) ∧ ((x0 ≤ x3) ∧ ((x3 ≤ (65536 : Int)) ∧ (x1 ≤ (200000 : Int)))))) := by omega
theorem q_3384 {x0 x1 : Int} (h0 : ((4 : Int) ≤ (x0 - x1))) (h1 : (((0 : Int) ≤ x1) ∧ (x1 ≤ x0))) : (((0 : Int) ≤ x1) ∧ ((x1 + (4 : Int)) ≤ x0)) := by omega
theorem q_3385 {x0 x1 x2 : Int} (h0 : (((0 : Int) ≤ x0) ∧ ((x0 ≤ x1) ∧ (x1 ≤ (65536 : Int))))) (h1 : (((0 : Int) ≤ x2) ∧ (x2 ≤ x1))) : (((0 : Int) ≤ x2) ∧ ((x2 ≤ x1) ∧ (x1 ≤ (65536 : Int)))) := by omega
theorem q_3386 {x0 x1 x2 x3 x4 : Int} (h0 : (x0 = (0 : Int))) (h1 : (x1 ≤ x2)) (h2 : ((x0 = (0 : Int)) → (((x2 + (4 : Int)) ≤ x3) ∧ (x3 ≤ x4)))) : ((x1 + (1 : Int)) ≤ x3) := by omega
theorem q_3387 {x0 x1 x2 x3 : Int} (h0 : (x0 = (0 : Int))) (h1 : (((0 : Int) ≤ x1) ∧ (x1 ≤ x2))) (h2 : ((x0 = (0 : Int)) → (((x1 + (4 : Int)) ≤ x3) ∧ (x3 ≤ x2)))) : (((0 : Int) ≤ x3) ∧ (x3 ≤ x2)) := by omega
theorem q_3388 {x0 x1 x2 : Int} (h0 : (x0 < x1)) (h1 : ((0 : Int) ≤ x0)) (h2 : (((0 : Int) ≤ x1) ∧ (x1 ≤ x2))) (h3 : (((0 : Int) ≤ x2) ∧ (x2 ≤ (1000000 : Int)))) : (inr (x0 + (1 : Int))) := by omega
theorem q_3389 {x0 x1 : Int} (h0 : (((0 : Int) ≤ x0) ∧ (x0 ≤ x1))) : ((0 : Int) ≤ (x0 + (6 : Int))) := by omega
theorem q_3390 {x0 x1 x2 x3 x4 x5 : Int} (h0 : (x0 = (0 : Int))) (h1 : ((x0 = (0 : Int)) → (((x1 + (4 : Int)) ≤ x2) ∧ ((x2 ≤ x3) ∧ (((0 : Int) ≤ x4) ∧ (x4 ≤ x5)))))) : (((0 : Int) ≤ x4) ∧ (x4 ≤ x5)) := by omega
theorem q_3391 {x0 x1 x2 x3 x4 x5 : Int} (h0 : (x0 = (0 : Int))) (h1 : (((0 : Int) ≤ x1) ∧ (x1 ≤ x2))) (h2 : ((x0 = (0 : Int)) → (((x1 + (4 : Int)) ≤ x3) ∧ ((x3 ≤ x2) ∧ (((0 : Int) ≤ x4) ∧ (x4 ≤ x5)))))) : (((0 : Int) ≤ x3) ∧ (x3 ≤ x2)) := by omega
theorem q_3392 {x0 x1 x2 : Int} (h0 : ((4 : Int) ≤ (x0 - x1))) (h1 : (((0 : Int) ≤ x1) ∧ (x1 ≤ x0))) (h2 : (((0 : Int) ≤ x0) ∧ (x0 ≤ x2))) (h3 : (((0 : Int) ≤ x2) ∧ (x2 ≤ (1000000 : Int)))) : (inr (x1 + (6 : Int))) := by omega
theorem q_3393 {x0 : Int} (h0 : (((0 : Int) ≤ x0) ∧ (x0 ≤ (9 : Int)))) : (((0 : Int) ≤ x0) ∧ (x0 ≤ (11 : Int))) := by omega
theorem q_3394 {x0 x1 x2 x3 x4 x5 x6 : Int} (h0 : (x0 = (0 : Int))) (h1 : ((x0 = (0 : Int)) → (((x1 + (7 : Int)) ≤ x2) ∧ ((x2 ≤ x3) ∧ ((x4 = x5) ∧ (((65536 : Int) ≤ x6) ∧ (x6 ≤ (4194304 : Int)))))))) : (((65536 : Int) ≤ x6) ∧ (x6 ≤ (4194304 : Int))) := by omega
theorem q_3395 {x0 x1 x2 x3 x4 x5 x6 x7 : Int} (h0 : (x0 = (0 : Int))) (h1 : (((0 : Int) ≤ x1) ∧ ((x1 ≤ x2) ∧ (x2 ≤ (65536 : Int))))) (h2 : ((x0 = (0 : Int)) → (((x3 + (7 : Int)) ≤ x4) ∧ ((x4 ≤ x5) ∧ ((x6 = x1) ∧ (((65536 : Int) ≤ x7) ∧ (x7 ≤ (4194304 : Int)))))))) : (((0 : Int) ≤ x6) ∧ (x6 ≤ x1)) := by omega
theorem q_3396 {x0 x1 x2 x3 x4 : Int} (h0 : (((0 : Int) ≤ x0) ∧ (x0 ≤ (65536 : Int)))) (h1 : ((x1 = x0) ∧ (x2 = x3))) (h2 : (x4 ≤ x0)) : (((0 : Int) ≤ x1) ∧ ((x1 ≤ (65536 : Int)) ∧ (x4 ≤ x1))) := by omega
theorem q_3397 {x0 x1 x2 x3 x4 x5 x6 : Int} (h0 : (x0 = (0 : Int))) (h1 : (((0 : Int) ≤ x1) ∧ (x1 ≤ x2))) (h2 : ((x0 = (0 : Int)) → (((x1 + (7 : Int)) ≤ x3) ∧ ((x3 ≤ x2) ∧ ((x4 = x5) ∧ (((65536 : Int) ≤ x6) ∧ (x6 ≤ (4194304 : Int)))))))) : (((0 : Int) ≤ x3) ∧ (x3 ≤ x2)) := by omega
theorem q_3398 {x0 x1 x2 x3 x4 x5 : Int} (h0 : ((x0 = x1) ∧ (x2 = x3))) (h1 : ((x4 ≤ x5) ∧ (x5 ≤ x0))) : (x5 ≤ x1) := by omega
theorem q_3399 {x0 : Int} (h0 : (((0 : Int) ≤ x0) ∧ (x0 ≤ (6 : Int)))) : (((0 : Int) ≤ x0) ∧ (x0 ≤ (9 : Int))) := by omega
theorem q_3400 {x0 x1 x2 x3 : Int} (h0 : ((0 : Int) ≤ x0)) (h1 : (inr x1)) (h2 : (x1 ≤ x2)) (h3 : ((x0 = (-(1 : Int))) ∨ (((x2 + (8 : Int)) ≤ x0) ∧ (x0 ≤ x3)))) : ((x1 + (1 : Int)) ≤ x0) := by omega
theorem q_3401 {x0 x1 x2 x3 : Int} (h0 : ((0 : Int) ≤ x0)) (h1 : (((0 : Int) ≤ x1) ∧ (x1 ≤ x2))) (h2 : ((x0 = (-(1 : Int))) ∨ (((x3 + (8 : Int)) ≤ x0) ∧ (x0 ≤ x1)))) : (((0 : Int) ≤ x0) ∧ (x0 ≤ x1)) := by omega
theorem q_3402 {x0 : Int} (h0 : (x0 = (10 : Int))) (h1 : (((0 : Int) ≤ x0) ∧ (x0 ≤ (1000000 : Int)))) : (((0 : Int) ≤ (4 : Int)) ∧ ((4 : Int) < x0)) := by omega
theorem q_3403 {x0 x1 : Int} (h0 : (((0 : Int) ≤ x0) ∧ ((x0 ≤ x1) ∧ (x1 ≤ (65536 : Int))))) : ((0 : Int) ≤ x0) := by omega
theorem q_3404 {x0 : Int} (h0 : (x0 = (10 : Int))) (h1 : (((0 : Int) ≤ x0) ∧ (x0 ≤ (1000000 : Int)))) : (((0 : Int) ≤ (5 : Int)) ∧ ((5 : Int) < x0)) := by omega
theorem q_3405 {x0 x1 x2 : Int} (h0 : (((0 : Int) ≤ x0) ∧ ((x0 ≤ x1) ∧ (x1 ≤ (65536 : Int))))) (h1 : (((0 : Int) ≤ x2) ∧ (x2 ≤ x0))) : (((x0 - x2) < (0 : Int)) ∨ (((0 : Int) ≤ x2) ∧ ((x2 + (x0 - x2)) ≤ x1))) := by omega
theorem q_3406 {x0 : Int} (h0 : (x0 = (10 : Int))) : (((0 : Int) ≤ x0) ∧ (x0 ≤ (12 : Int))) := by omega
theorem q_3407 {x0 x1 x2 x3 x4 : Int} (h0 : (((0 : Int) ≤ x0) ∧ ((x0 ≤ x1) ∧ (x1 ≤ (65536 : Int))))) (h1 : (((0 : Int) ≤ x2) ∧ ((x2 ≤ x3) ∧ (x3 ≤ (65536 : Int))))) (h2 : ((x0 ≤ x2) ∧ (x2 ≤ x4))) : (((0 : Int) ≤ x0) ∧ ((x0 ≤ x2) ∧ (x2 ≤ x3))) := by omega
theorem q_3408 {x0 x1 x2 : Int} (h0 : (((0 : Int) ≤ x0) ∧ ((x0 ≤ x1) ∧ (x1 ≤ (65536 : Int))))) (h1 : (((0 : Int) ≤ x2) ∧ ((x2 ≤ (65536 : Int)) ∧ (x0 ≤ x2)))) : (inr x0) := by omega
theorem q_3409 {x0 x1 x2 : Int} (h0 : ((4 : Int) ≤ x0)) (h1 : (((0 : Int) ≤ x1) ∧ (((0 : Int) ≤ x0) ∧ ((((x1 + (4 : Int)) + x0) ≤ x2) ∧ (x2 ≤ (65536 : Int)))))) : (((0 : Int) ≤ (x1 + (4 : Int))) ∧ (((x1 + (4 : Int)) + (4 : Int)) ≤ x2)) := by omega
theorem q_3410 {x0 x1 x2 : Int} (h0 : (((0 : Int) ≤ x0) ∧ (((0 : Int) ≤ x1) ∧ ((((x0 + (4 : Int)) + x1) ≤ x2) ∧ (x2 ≤ (65536 : Int)))))) : (inr (x0 + (4 : Int))) := by omega
theorem q_3411 {x0 : Int} (h0 : (x0 = (11 : Int))) : (((0 : Int) ≤ x0) ∧ (x0 ≤ (12 : Int))) := by omega
theorem q_3412 {x0 x1 x2 : Int} (h0 : (((0 : Int) ≤ x0) ∧ ((x0 ≤ x1) ∧ (x1 ≤ (65536 : Int))))) (h1 : (((0 : Int) ≤ x2) ∧ ((x2 ≤ (65536 : Int)) ∧ (x0 ≤ x2)))) : (inr (x2 - x0)) := by omega
theorem q_3413 {x0 x1 x2 : Int} (h0 : ((4 : Int) ≤ x0)) (h1 : (((0 : Int) ≤ x1) ∧ (((0 : Int) ≤ x0) ∧ ((((x1 + (4 : Int)) + x0) ≤ x2) ∧ (x2 ≤ (65536 : Int)))))) : (inr (x0 - (4 : Int))) := by omega
theorem q_3414 {x0 x1 x2 : Int} (h0 : (((0 : Int) ≤ x0) ∧ (((0 : Int) ≤ x1) ∧ ((((x0 + (4 : Int)) + x1) ≤ x2) ∧ (x2 ≤ (65536 : Int)))))) : (((x1 - (4 : Int)) < (0 : Int)) ∨ (((0 : Int) ≤ (x0 + (8 : Int))) ∧ (((x0 + (8 : Int)) + (x1 - (4 : Int))) ≤ x2))) := by omega
theorem q_3415 {x0 x1 x2 : Int} (h0 : (((0 : Int) ≤ x0) ∧ (((0 : Int) ≤ x1) ∧ ((((x0 + (4 : Int)) + x1) ≤ x2) ∧ (x2 ≤ (65536 : Int)))))) : (inr (x0 + (8 : Int))) := by omega
theorem q_3416 {x0 x1 x2 x3 : Int} (h0 : ((x0 - (4 : Int)) ≤ (x1 - x2))) (h1 : ((4 : Int) ≤ x0)) (h2 : (((0 : Int) ≤ x1) ∧ ((x1 ≤ (65536 : Int)) ∧ (x2 ≤ x1)))) (h3 : (((x3 = (x2 + (x0 - (4 : Int)))) ∧ ((0 : Int) ≤ (x0 - (4 : Int)))) ∨ ((x3 = x2) ∧ (((x0 - (4 : Int)) < (0 : Int)) ∨ ((65536 : Int) < (x2 + (x0 - (4 : Int)))))))) : ((x2 ≤ x3) ∧ (x3 ≤ x1)) := by omega
theorem q_3417 {x0 x1 x2 x3 x4 : Int} (h0 : ((x0 - x1) < (x2 - (4 : Int)))) (h1 : (((0 : Int) ≤ x3) ∧ (((0 : Int) ≤ x2) ∧ ((((x3 + (4 : Int)) + x2) ≤ x4) ∧ (x4 ≤ (65536 : Int)))))) (h2 : (((0 : Int) ≤ x0) ∧ ((x0 ≤ (65536 : Int)) ∧ (x1 ≤ x0)))) : (inr ((x3 + (8 : Int)) + (x0 - x1))) := by omega
theorem q_3418 {x0 : Int} (h0 : (x0 = (3 : Int))) : (((0 : Int) ≤ x0) ∧ (x0 ≤ (12 : Int))) := by omega
theorem q_3419 {x0 x1 x2 : Int} (h0 : ((((x0 - x1) < (65536 : Int)) ∧ (x2 = (x0 - x1))) ∨ ((¬ ((x0 - x1) < (65536 : Int))) ∧ (x2 = (65536 : Int))))) : (x2 ≤ (65536 : Int)) := by omega
theorem q_3420 {x0 x1 x2 : Int} (h0 : ((4 : Int) ≤ x0)) (h1 : (((0 : Int) ≤ x1) ∧ (((0 : Int) ≤ x0) ∧ ((((x1 + (4 : Int)) + x0) ≤ x2) ∧ (x2 ≤ (65536 : Int)))))) : (((0 : Int) ≤ (x1 + (8 : Int))) ∧ (((x1 + (8 : Int)) ≤ ((x1 + (4 : Int)) + x0)) ∧ ((((x1 + (4 : Int)) + x0) ≤ x2) ∧ (x2 ≤ (65536 : Int))))) := by omega
theorem q_3421 {x0 x1 x2 : Int} (h0 : ((((x0 - x1) < (65536 : Int)) ∧ (x2 = (x0 - x1))) ∨ ((¬ ((x0 - x1) < (65536 : Int))) ∧ (x2 = (65536 : Int))))) (h1 : (((0 : Int) ≤ x0) ∧ ((x0 ≤ (65536 : Int)) ∧ (x1 ≤ x0)))) : (inr x2) := by omega
theorem q_3422 {x0 x1 x2 : Int} (h0 : ((4 : Int) ≤ x0)) (h1 : (((0 : Int) ≤ x1) ∧ (((0 : Int) ≤ x0) ∧ ((((x1 + (4 : Int)) + x0) ≤ x2) ∧ (x2 ≤ (65536 : Int)))))) : (inr ((x1 + (4 : Int)) + x0)) := by omega
theorem q_3423 {x0 : Int} (h0 : (((0 : Int) ≤ x0) ∧ (x0 ≤ (6 : Int)))) : (((0 : Int) ≤ x0) ∧ (x0 ≤ (12 : Int))) := by omega
theorem q_3424 : (((0 : Int) ≤ (12 : Int)) ∧ ((12 : Int) ≤ (12 : Int))) := by omega
theorem q_3425 {x0 x1 : Int} (h0 : (x0 ≠ (1 : Int))) : ((x0 ≠ (1 : Int)) ∨ ((x0 = (1 : Int)) ∧ (x1 ≤ (65540 : Int)))) := by omega
theorem q_3426 {x0 x1 : Int} (h0 : (x0 = (1 : Int))) (h1 : (x1 ≤ (65540 : Int))) : ((x0 ≠ (1 : Int)) ∨ ((x0 = (1 : Int)) ∧ (x1 ≤ (65540 : Int)))) := by omega
theorem q_3427 {x0 : Int} (h0 : (x0 = (0 : Int))) : (((0 : Int) ≤ x0) ∧ (x0 ≤ (12 : Int))) := by omega
theorem q_3428 {x0 x1 x2 : Int} (h0 : (x0 < x1)) (h1 : (((0 : Int) ≤ x0) ∧ (x0 ≤ x1))) (h2 : (((0 : Int) ≤ x1) ∧ (x1 ≤ x2))) : (((0 : Int) ≤ x0) ∧ (x0 < x2)) := by omega
theorem q_3429 {x0 x1 : Int} (h0 : (x0 < x1)) (h1 : (((0 : Int) ≤ x0) ∧ (x0 ≤ x1))) (h2 : (((-(2147483648 : Int)) ≤ x1) ∧ (x1 ≤ (2147483647 : Int)))) : (inr ((x1 - x0) - (4 : Int))) := by omega
theorem q_3430 {x0 x1 x2 x3 : Int} (h0 : (x0 ≤ ((x1 - x2) - (4 : Int)))) (h1 : (((0 : Int) ≤ x2) ∧ (x2 ≤ x1))) (h2 : (((x1 < (x2 + (4 : Int))) ∧ (x0 = x1)) ∨ (((x2 + (4 : Int)) ≤ x1) ∧ (x0 = x3)))) : (x0 = x3) := by omega
theorem q_3431 {x0 x1 x2 : Int} (h0 : (x0 ≤ x1)) (h1 : (((0 : Int) ≤ x2) ∧ (x2 ≤ (16777215 : Int)))) : ((x0 + (1 : Int)) ≤ (x1 + ((4 : Int) + x2))) := by omega
theorem q_3432 {x0 x1 x2 : Int} (h0 : (x0 ≤ ((x1 - x2) - (4 : Int)))) (h1 : (((0 : Int) ≤ x0) ∧ (x0 ≤ (16777215 : Int)))) (h2 : (((0 : Int) ≤ x2) ∧ (x2 ≤ x1))) : (((0 : Int) ≤ (x2 + ((4 : Int) + x0))) ∧ ((x2 + ((4 : Int) + x0)) ≤ x1)) := by omega
theorem q_3433 {x0 x1 x2 : Int} (h0 : (x0 ≤ ((x1 - x2) - (4 : Int)))) (h1 : (((0 : Int) ≤ x0) ∧ (x0 ≤ (16777215 : Int)))) (h2 : (((0 : Int) ≤ x2) ∧ (x2 ≤ x1))) (h3 : (((-(2147483648 : Int)) ≤ x1) ∧ (x1 ≤ (2147483647 : Int)))) : (inr (x2 + ((4 : Int) + x0))) := by omega
theorem q_3434 {x0 : Int} (h0 : ((x0 % (256 : Int)) < (2 : Int))) : (inr (x0 % (256 : Int))) := by omega
theorem q_3435 {x0 : Int} (h0 : ((x0 % (256 : Int)) < (2 : Int))) : (((0 : Int) ≤ (x0 % (256 : Int))) ∧ ((x0 % (256 : Int)) ≤ (1 : Int))) := by omega
theorem q_3436 {x0 x1 x2 x3 x4 : Int} (h0 : (((0 : Int) ≤ x0) ∧ (x0 ≤ (65536 : Int)))) (h1 : (x1 ≤ x0)) (h2 : ((x2 = x0) ∧ (x3 = x4))) : (((0 : Int) ≤ x2) ∧ ((x2 ≤ (65536 : Int)) ∧ (x1 ≤ x2))) := by omega
theorem q_3437 {x0 x1 x2 x3 x4 : Int} (h0 : (x0 ≤ ((x1 - x2) - (4 : Int)))) (h1 : (((0 : Int) ≤ x3) ∧ ((x3 ≤ x4) ∧ (x4 ≤ (65536 : Int))))) (h2 : (((0 : Int) ≤ x2) ∧ (x2 ≤ x1))) (h3 : (((0 : Int) ≤ x1) ∧ (x1 ≤ x4))) (h4 : (((0 : Int) ≤ x0) ∧ (x0 ≤ (16777215 : Int)))) : (((0 : Int) ≤ x2) ∧ (((0 : Int) ≤ x0) ∧ ((((x2 + (4 : Int)) + x0) ≤ x4) ∧ (x4 ≤ (65536 : Int))))) := by omega
theorem q_3438 {x0 x1 x2 : Int} (h0 : (x0 = (8 : Int))) : ((x0 ≠ (0 : Int)) ∨ (x1 = x2)) := by omega
theorem q_3439 {x0 : Int} (h0 : (x0 = (8 : Int))) : (((0 : Int) ≤ x0) ∧ (x0 ≤ (12 : Int))) := by omega
theorem q_3440 {x0 x1 x2 x3 : Int} (h0 : (x0 < x1)) (h1 : (((0 : Int) ≤ x2) ∧ ((x2 ≤ x3) ∧ (x3 ≤ (65536 : Int))))) (h2 : (((0 : Int) ≤ x0) ∧ (x0 ≤ x1))) (h3 : (((0 : Int) ≤ x1) ∧ (x1 ≤ x3))) (h4 : (((0 : Int) ≤ x3) ∧ (x3 ≤ (1000000 : Int)))) : (((0 : Int) ≤ x0) ∧ (((0 : Int) ≤ x1) ∧ ((x1 ≤ x3) ∧ ((x3 ≤ (65536 : Int)) ∧ (x0 ≤ (200000 : Int)))))) := by omega
theorem q_3441 {x0 x1 x2 x3 : Int} (h0 : (((x0 < (x1 + (4 : Int))) ∧ (x2 = x0)) ∨ (((x1 + (4 : Int)) ≤ x0) ∧ (x2 = x3)))) : ((x0 < (x1 + (4 : Int))) ∨ (x2 = x3)) := by omega
theorem q_3442 {x0 x1 x2 : Int} (h0 : (x0 = (7 : Int))) : ((x0 ≠ (0 : Int)) ∨ (x1 = x2)) := by omega
theorem q_3443 {x0 : Int} (h0 : (x0 = (7 : Int))) : (((0 : Int) ≤ x0) ∧ (x0 ≤ (12 : Int))) := by omega
theorem q_3444 {x0 x1 x2 : Int} (h0 : ((4 : Int) ≤ (x0 - x1))) (h1 : (((0 : Int) ≤ x1) ∧ (x1 ≤ x0))) (h2 : (((0 : Int) ≤ x0) ∧ (x0 ≤ x2))) : (((3 : Int) ≤ (0 : Int)) ∨ (((0 : Int) ≤ (x1 + (1 : Int))) ∧ (((x1 + (1 : Int)) + (3 : Int)) ≤ x2))) := by omega
theorem q_3445 {x0 x1 x2 : Int} (h0 : ((4 : Int) ≤ (x0 - x1))) (h1 : (((0 : Int) ≤ x1) ∧ (x1 ≤ x0))) (h2 : (((0 : Int) ≤ x0) ∧ (x0 ≤ x2))) (h3 : (((0 : Int) ≤ x2) ∧ (x2 ≤ (1000000 : Int)))) : (inr (x1 + (1 : Int))) := by omega
theorem q_3446 {x0 x1 x2 x3 : Int} (h0 : ((4 : Int) ≤ (x0 - x1))) (h1 : (x2 = x3)) : (((x0 < (x1 + (4 : Int))) ∧ (x2 = x0)) ∨ (((x1 + (4 : Int)) ≤ x0) ∧ (x2 = x3))) := by omega
theorem q_3447 {x0 x1 x2 : Int} (h0 : ((x0 - x1) < (4 : Int))) : (((x0 < (x1 + (4 : Int))) ∧ (x0 = x0)) ∨ (((x1 + (4 : Int)) ≤ x0) ∧ (x0 = x2))) := by omega
theorem q_3448 {x0 x1 : Int} (h0 : (((0 : Int) ≤ x0) ∧ (x0 ≤ x1))) (h1 : (((0 : Int) ≤ x1) ∧ (x1 ≤ (1000000 : Int)))) : (((0 : Int) ≤ x0) ∧ (x0 ≤ (16777215 : Int))) := by omega
theorem q_3449 {x0 : Int} (h0 : ((2 : Int) ≤ (x0 % (256 : Int)))) : (inr (x0 % (256 : Int))) := by omega
theorem q_3450 {x0 : Int} (h0 : ((127 : Int) < (x0 % (256 : Int)))) : (inr (x0 % (256 : Int))) := by omega
theorem q_3451 {x0 : Int} (h0 : ((127 : Int) < (x0 % (256 : Int)))) (h1 : ((x0 % (256 : Int)) < (2 : Int))) : (((0 : Int) ≤ (x0 % (256 : Int))) ∧ ((x0 % (256 : Int)) ≤ (1 : Int))) := by omega
theorem q_3452 {x0 : Int} (h0 : ((127 : Int) < (x0 % (256 : Int)))) (h1 : ((x0 % (256 : Int)) < (2 : Int))) : (inr (x0 % (256 : Int))) := by omega
theorem q_3453 {x0 x1 x2 : Int} (h0 : (x0 = (9 : Int))) : ((x0 ≠ (0 : Int)) ∨ (x1 = x2)) := by omega
theorem q_3454 {x0 : Int} (h0 : (x0 = (9 : Int))) : (((0 : Int) ≤ x0) ∧ (x0 ≤ (12 : Int))) := by omega
theorem q_3455 {x0 : Int} (h0 : ((x0 % (256 : Int)) = (255 : Int))) : (inr (x0 % (256 : Int))) := by omega
theorem q_3456 {x0 x1 : Int} (h0 : (x0 < x1)) (h1 : (x0 = (0 : Int))) (h2 : (((-(2147483648 : Int)) ≤ x1) ∧ (x1 ≤ (2147483647 : Int)))) : (inr ((x1 - x0) - (4 : Int))) := by omega
theorem q_3457 {x0 x1 x2 x3 : Int} (h0 : (x0 = (0 : Int))) (h1 : (x1 ≤ ((x2 - x0) - (4 : Int)))) (h2 : (((x2 < (x0 + (4 : Int))) ∧ (x1 = x2)) ∨ (((x0 + (4 : Int)) ≤ x2) ∧ (x1 = x3)))) : (x1 = x3) := by omega
theorem q_3458 {x0 x1 : Int} (h0 : (x0 = (0 : Int))) (h1 : (x1 ≤ x0)) (h2 : ((0 : Int) ≤ x1)) : (inr (x1 + (1 : Int))) := by omega
theorem q_3459 {x0 x1 x2 : Int} (h0 : (x0 = (0 : Int))) (h1 : (((0 : Int) ≤ x1) ∧ (x1 ≤ (16777215 : Int)))) (h2 : (((0 : Int) ≤ x0) ∧ (x0 ≤ x2))) : (inr (x0 + ((4 : Int) + x1))) := by omega
theorem q_3460 {x0 : Int} (h0 : ((x0 % (256 : Int)) = (255 : Int))) (h1 : ((x0 % (256 : Int)) < (2 : Int))) : (inr (x0 % (256 : Int))) := by omega
theorem q_3461 {x0 : Int} (h0 : ((x0 % (256 : Int)) = (255 : Int))) (h1 : ((x0 % (256 : Int)) < (2 : Int))) : (((0 : Int) ≤ (x0 % (256 : Int))) ∧ ((x0 % (256 : Int)) ≤ (1 : Int))) := by omega
theorem q_3462 {x0 x1 x2 x3 : Int} (h0 : (x0 = (0 : Int))) (h1 : (((0 : Int) ≤ x1) ∧ ((x1 ≤ x2) ∧ (x2 ≤ (65536 : Int))))) (h2 : (((0 : Int) ≤ x0) ∧ (x0 ≤ x3))) (h3 : (((0 : Int) ≤ x3) ∧ (x3 ≤ x2))) : (((0 : Int) ≤ x0) ∧ (((0 : Int) ≤ x3) ∧ ((x3 ≤ x2) ∧ ((x2 ≤ (65536 : Int)) ∧ (x0 ≤ (200000 : Int)))))) := by omega
theorem q_3463 {x0 x1 : Int} (h0 : (x0 < x1)) (h1 : (x0 = (0 : Int))) (h2 : (((-(2147483648 : Int)) ≤ x1) ∧ (x1 ≤ (2147483647 : Int)))) : (inr (x1 - x0)) := by omega
theorem q_3464 {x0 x1 x2 : Int} (h0 : ((4 : Int) ≤ (x0 - x1))) (h1 : (x1 = (0 : Int))) (h2 : (((0 : Int) ≤ x0) ∧ (x0 ≤ x2))) : (((3 : Int) ≤ (0 : Int)) ∨ (((0 : Int) ≤ (x1 + (1 : Int))) ∧ (((x1 + (1 : Int)) + (3 : Int)) ≤ x2))) := by omega
theorem q_3465 {x0 x1 x2 : Int} (h0 : ((x0 - x1) < (4 : Int))) (h1 : (x1 = (0 : Int))) (h2 : (((0 : Int) ≤ x0) ∧ (x0 ≤ x2))) : (((0 : Int) ≤ x0) ∧ (x0 ≤ (16777215 : Int))) := by omega
theorem q_3466 {x0 : Int} (h0 : ((x0 % (256 : Int)) = (255 : Int))) (h1 : ((2 : Int) ≤ (x0 % (256 : Int)))) : (inr (x0 % (256 : Int))) := by omega
theorem q_3467 {x0 x1 x2 x3 : Int} (h0 : (x0 ≤ ((x1 - x2) - (4 : Int)))) (h1 : (x2 = (0 : Int))) (h2 : (((x1 < (x2 + (4 : Int))) ∧ (x0 = x1)) ∨ (((x2 + (4 : Int)) ≤ x1) ∧ (x0 = x3)))) : (x0 = x3) := by omega
theorem q_3468 {x0 : Int} (h0 : ((127 : Int) < (x0 % (256 : Int)))) (h1 : ((x0 % (256 : Int)) = (255 : Int))) : (inr (x0 % (256 : Int))) := by omega
theorem q_3469 {x0 x1 x2 x3 x4 : Int} (h0 : (inr x0)) (h1 : ((x0 < (0 : Int)) ∨ (((0 : Int) ≤ x1) ∧ ((x1 + x0) ≤ (10 : Int))))) (h2 : (((0 : Int) ≤ x2) ∧ ((x2 ≤ x3) ∧ (x3 ≤ (65536 : Int))))) (h3 : (((x4 = (1 : Int)) ∧ (((0 : Int) ≤ x0) ∧ ((x2 + x0) ≤ x3))) ∨ ((x4 = (0 : Int)) ∧ ((x0 < (0 : Int)) ∨ ((65536 : Int) < (x2 + x0)))))) (h4 : (((0 : Int) ≤ x3) ∧ (x3 ≤ (1000000 : Int)))) : (((-(2147483648 : Int)) ≤ (x2 + x0)) ∧ ((x2 + x0) ≤ (2147483647 : Int))) := by omega
theorem q_3470 : (((10 : Int) < (0 : Int)) ∨ (((0 : Int) ≤ (0 : Int)) ∧ (((0 : Int) + (10 : Int)) ≤ (10 : Int)))) := by omega
theorem q_3471 {x0 : Int} (h0 : (x0 = (10 : Int))) (h1 : (((0 : Int) ≤ x0) ∧ (x0 ≤ (1000000 : Int)))) : (((0 : Int) ≤ (2 : Int)) ∧ ((2 : Int) < x0)) := by omega
theorem q_3472 {x0 x1 : Int} (h0 : (x0 = x1)) (h1 : (((1 : Int) ≤ x0) ∧ (x0 ≤ (65536 : Int)))) : (((1 : Int) ≤ x1) ∧ (x1 ≤ (65536 : Int))) := by omega
theorem q_3473 {x0 x1 : Int} (h0 : (x0 = (0 : Int))) : ((x0 = (0 : Int)) ∨ ((x0 + (4 : Int)) ≤ (x1 + (1 : Int)))) := by omega
theorem q_3474 {x0 x1 x2 : Int} (h0 : (((0 : Int) ≤ x0) ∧ ((x0 ≤ x1) ∧ (x1 ≤ (65536 : Int))))) (h1 : (x2 = (0 : Int))) (h2 : (((0 : Int) ≤ x1) ∧ (x1 ≤ (1000000 : Int)))) : (((0 : Int) ≤ x2) ∧ ((x2 ≤ x1) ∧ ((x1 ≤ (65536 : Int)) ∧ (x2 ≤ (16384 : Int))))) := by omega
theorem q_3475 {x0 x1 : Int} (h0 : (((0 : Int) ≤ x0) ∧ ((x0 ≤ x1) ∧ (x1 ≤ (65536 : Int))))) : (((0 : Int) ≤ (0 : Int)) ∧ ((0 : Int) ≤ (x0 + (65536 : Int)))) := by omega
theorem q_3476 {x0 x1 : Int} (h0 : (((0 : Int) ≤ x0) ∧ ((x0 ≤ x1) ∧ (x1 ≤ (16384 : Int))))) : (x1 ≤ (16384 : Int)) := by omega
theorem q_3477 {x0 x1 : Int} (h0 : (((0 : Int) ≤ x0) ∧ ((x0 ≤ x1) ∧ (x1 ≤ (65536 : Int))))) (h1 : (x0 ≤ (16384 : Int))) : (inr x0) := by omega
theorem q_3478 {x0 x1 : Int} (h0 : (x0 < x1)) (h1 : (x1 ≤ (16384 : Int))) (h2 : (((0 : Int) ≤ x0) ∧ (x0 ≤ (x1 + (65536 : Int))))) : (inr (x1 - x0)) := by omega
theorem q_3479 {x0 x1 : Int} (h0 : (((0 : Int) ≤ x0) ∧ ((x0 ≤ x1) ∧ (x1 ≤ (16384 : Int))))) : (((0 : Int) ≤ (0 : Int)) ∧ ((0 : Int) ≤ x0)) := by omega
theorem q_3480 {x0 x1 x2 x3 : Int} (h0 : ((x0 = x1) ∧ ((x2 = (4 : Int)) ∧ (x3 = (65535 : Int))))) : (((1 : Int) ≤ x2) ∧ (x2 ≤ (8 : Int))) := by omega
theorem q_3481 {x0 x1 x2 x3 : Int} (h0 : (((0 : Int) ≤ x0) ∧ ((x0 ≤ x1) ∧ (x1 ≤ (65536 : Int))))) (h1 : (((0 : Int) ≤ x2) ∧ ((x2 ≤ (16384 : Int)) ∧ ((x3 + x2) ≤ x0)))) (h2 : (((0 : Int) ≤ x3) ∧ (x3 ≤ (x0 + (65536 : Int))))) : ((x2 < (0 : Int)) ∨ (((0 : Int) ≤ x3) ∧ ((x3 + x2) ≤ x1))) := by omega
theorem q_3482 {x0 x1 x2 : Int} (h0 : (((0 : Int) ≤ x0) ∧ ((x0 ≤ x1) ∧ ((x1 ≤ (65536 : Int)) ∧ (x0 ≤ (16384 : Int)))))) (h1 : (x2 = (0 : Int))) (h2 : (((0 : Int) ≤ x1) ∧ (x1 ≤ (1000000 : Int)))) : (((0 : Int) ≤ x2) ∧ ((x2 ≤ x1) ∧ (x1 ≤ (65536 : Int)))) := by omega
theorem q_3483 {x0 x1 x2 : Int} (h0 : (((0 : Int) ≤ x0) ∧ ((x0 ≤ (16384 : Int)) ∧ ((x1 + x0) ≤ x2)))) : (inr x0) := by omega
theorem q_3484 {x0 x1 x2 x3 x4 x5 : Int} (h0 : (((0 : Int) ≤ x0) ∧ ((x0 ≤ (16384 : Int)) ∧ ((x1 + x0) ≤ x2)))) (h1 : (x3 = (0 : Int))) (h2 : (((0 : Int) ≤ x4) ∧ ((x4 ≤ x5) ∧ (x5 ≤ (65536 : Int))))) (h3 : (((x4 = (x3 + x0)) ∧ ((0 : Int) ≤ x0)) ∨ ((x4 = x3) ∧ ((x0 < (0 : Int)) ∨ ((65536 : Int) < (x3 + x0)))))) : (x4 = x0) := by omega
theorem q_3485 {x0 x1 x2 : Int} (h0 : ((x0 = (65535 : Int)) ∧ (x1 = x2))) : (x0 = (65535 : Int)) := by omega
theorem q_3486 {x0 x1 x2 : Int} (h0 : (((0 : Int) ≤ x0) ∧ ((x0 ≤ x1) ∧ (x1 ≤ (16384 : Int))))) (h1 : (x2 = (0 : Int))) (h2 : (((0 : Int) ≤ x1) ∧ (x1 ≤ (1000000 : Int)))) : (((0 : Int) ≤ x2) ∧ ((x2 ≤ x1) ∧ (x1 ≤ (16384 : Int)))) := by omega
theorem q_3487 {x0 x1 x2 x3 x4 : Int} (h0 : (x0 = x1)) (h1 : (((0 : Int) ≤ x1) ∧ ((x1 ≤ (16384 : Int)) ∧ ((x2 + x1) ≤ x3)))) (h2 : (((0 : Int) ≤ x0) ∧ ((x0 ≤ x4) ∧ (x4 ≤ (65536 : Int))))) : (((0 : Int) ≤ x0) ∧ ((x0 ≤ x4) ∧ ((x4 ≤ (65536 : Int)) ∧ (x0 ≤ (16384 : Int))))) := by omega
theorem q_3488 {x0 x1 x2 : Int} (h0 : ((x0 = (65535 : Int)) ∧ (x1 = x2))) : (x1 = x2) := by omega
theorem q_3489 {x0 : Int} (h0 : (x0 = (10 : Int))) (h1 : (((0 : Int) ≤ x0) ∧ (x0 ≤ (1000000 : Int)))) : (((0 : Int) ≤ (6 : Int)) ∧ ((6 : Int) < x0)) := by omega
theorem q_3490 {x0 x1 x2 : Int} (h0 : (((0 : Int) ≤ x0) ∧ ((x1 ≤ x0) ∧ ((x0 ≤ x2) ∧ (x2 ≤ (16384 : Int)))))) : (((0 : Int) ≤ x0) ∧ ((x0 ≤ x2) ∧ (x2 ≤ (16384 : Int)))) := by omega
theorem q_3491 {x0 x1 x2 : Int} (h0 : ((0 : Int) < x0)) (h1 : (x1 < x2)) (h2 : (((1 : Int) ≤ x0) ∧ (x0 ≤ (65536 : Int)))) (h3 : (((0 : Int) ≤ x1) ∧ (x1 ≤ (x2 + (65536 : Int))))) : (((0 : Int) ≤ (x1 + x0)) ∧ ((x1 + x0) ≤ (x2 + (65536 : Int)))) := by omega
theorem q_3492 {x0 x1 x2 : Int} (h0 : ((0 : Int) < x0)) (h1 : (x1 < x2)) (h2 : (x2 ≤ (16384 : Int))) (h3 : (((1 : Int) ≤ x0) ∧ (x0 ≤ (65536 : Int)))) (h4 : (((0 : Int) ≤ x1) ∧ (x1 ≤ (x2 + (65536 : Int))))) : (inr (x1 + x0)) := by omega
theorem q_3493 {x0 x1 x2 : Int} (h0 : ((0 : Int) < x0)) : (((x1 + (65536 : Int)) - (x2 + x0)) < ((x1 + (65536 : Int)) - x2)) := by omega
theorem q_3494 {x0 x1 : Int} (h0 : (x0 < x1)) : ((0 : Int) < ((x1 + (65536 : Int)) - x0)) := by omega
theorem q_3495 : (((0 : Int) = (0 : Int)) ∧ (((0 : Int) = (0 : Int)) ∧ ((0 : Int) = (0 : Int)))) := by omega
theorem q_3496 {x0 : Int} (h0 : (x0 ≤ (0 : Int))) (h1 : ((0 : Int) ≤ x0)) : (inr x0) := by omega
theorem q_3497 {x0 : Int} : (x0 ≤ (x0 + (1 : Int))) := by omega
theorem q_3498 {x0 : Int} : (((0 : Int) = (0 : Int)) ∧ (x0 ≤ x0)) := by omega
theorem q_3499 {x0 : Int} (h0 : ((0 : Int) < x0)) (h1 : (((-(2147483648 : Int)) ≤ x0) ∧ (x0 ≤ (2147483647 : Int)))) : (inr x0) := by omega
theorem q_3500 {x0 : Int} : ((x0 + (1 : Int)) ≤ (x0 + (1 : Int))) := by omega
theorem q_3501 {x0 : Int} : (((0 : Int) = (0 : Int)) ∧ (x0 ≤ (x0 + (1 : Int)))) := by omega
theorem q_3502 {x0 x1 x2 x3 x4 x5 x6 x7 x8 x9 x10 : Int} (h0 : ((x0 = x1) ∧ ((x2 = x1) ∧ ((x3 = x1) ∧ ((x4 = x1) ∧ ((x5 = x1) ∧ ((x6 = x7) ∧ ((x8 = x7) ∧ (x9 ≤ x7))))))))) (h1 : (((0 : Int) ≤ x10) ∧ (x10 < x9))) : (((0 : Int) ≤ x10) ∧ (x10 < x6)) := by omega
theorem q_3503 {x0 x1 x2 x3 x4 x5 x6 x7 x8 x9 x10 x11 : Int} (h0 : ((x0 = x1) ∧ ((x2 = x1) ∧ ((x3 = x1) ∧ ((x4 = x1) ∧ ((x5 = x1) ∧ ((x6 = x7) ∧ ((x8 = x7) ∧ (x9 ≤ x7))))))))) (h1 : (((0 : Int) ≤ x10) ∧ ((x10 < x1) ∧ (x11 ≠ (0 : Int))))) : (((0 : Int) ≤ x10) ∧ (x10 < x4)) := by omega
theorem q_3504 {x0 x1 x2 x3 x4 x5 x6 x7 x8 x9 x10 x11 : Int} (h0 : ((x0 = x1) ∧ ((x2 = x1) ∧ ((x3 = x1) ∧ ((x4 = x1) ∧ ((x5 = x1) ∧ ((x6 = x7) ∧ ((x8 = x7) ∧ (x9 ≤ x7))))))))) (h1 : (((0 : Int) ≤ x10) ∧ ((x10 < x1) ∧ (x11 ≠ (0 : Int))))) : (((0 : Int) ≤ x10) ∧ (x10 < x3)) := by omega
theorem q_3505 {x0 x1 x2 x3 x4 x5 x6 x7 x8 x9 x10 : Int} (h0 : ((x0 = x1) ∧ ((x2 = x1) ∧ ((x3 = x1) ∧ ((x4 = x1) ∧ ((x5 = x1) ∧ ((x6 = x7) ∧ ((x8 = x7) ∧ (x9 ≤ x7))))))))) (h1 : (((0 : Int) ≤ x10) ∧ (x10 < x9))) (h2 : (((0 : Int) ≤ x7) ∧ (x7 ≤ (1000000 : Int)))) : (inr (x10 + x9)) := by omega
theorem q_3506 {x0 x1 x2 x3 x4 x5 x6 x7 x8 x9 x10 x11 : Int} (h0 : ((x0 = x1) ∧ ((x2 = x1) ∧ ((x3 = x1) ∧ ((x4 = x1) ∧ ((x5 = x1) ∧ ((x6 = x7) ∧ ((x8 = x7) ∧ (x9 ≤ x7))))))))) (h1 : (((0 : Int) ≤ x10) ∧ ((x10 < x1) ∧ (x11 ≠ (0 : Int))))) : (((0 : Int) ≤ x10) ∧ (x10 < x2)) := by omega
theorem q_3507 {x0 x1 : Int} (h0 : (((1 : Int) ≤ x0) ∧ ((x0 ≤ x1) ∧ (x0 ≤ (65536 : Int))))) : (((0 : Int) ≤ (x0 - (1 : Int))) ∧ ((x0 - (1 : Int)) < x1)) := by omega
theorem q_3508 {x0 x1 : Int} (h0 : (((1 : Int) ≤ x0) ∧ ((x0 ≤ x1) ∧ (x0 ≤ (65536 : Int))))) : ((-(1 : Int)) ≤ (x0 - (2 : Int))) := by omega
theorem q_3509 {x0 : Int} : (((x0 - (2 : Int)) ≤ (x0 - (2 : Int))) ∨ ((-(1 : Int)) ≤ (x0 - (2 : Int)))) := by omega
theorem q_3510 {x0 : Int} : ((x0 - (2 : Int)) ≤ (x0 - (2 : Int))) := by omega
theorem q_3511 {x0 x1 : Int} (h0 : (((1 : Int) ≤ x0) ∧ ((x0 ≤ x1) ∧ (x0 ≤ (65536 : Int))))) : (inr (x0 - (2 : Int))) := by omega
theorem q_3512 {x0 x1 x2 : Int} (h0 : (((0 : Int) ≤ x0) ∧ (x0 ≤ ((9 : Int) * ((x1 - (1 : Int)) - x2))))) (h1 : ((-(1 : Int)) ≤ x2)) : (((0 : Int) ≤ x0) ∧ (x0 ≤ ((9 : Int) * x1))) := by omega
theorem q_3513 {x0 x1 x2 x3 : Int} (h0 : ((0 : Int) ≤ x0)) (h1 : (((1 : Int) ≤ x1) ∧ ((x1 ≤ x2) ∧ (x1 ≤ (65536 : Int))))) (h2 : (((0 : Int) ≤ x3) ∧ (x3 ≤ ((9 : Int) * ((x1 - (1 : Int)) - x0))))) : (((0 : Int) ≤ x0) ∧ (x0 < x2)) := by omega
theorem q_3514 {x0 : Int} (h0 : ((0 : Int) ≤ x0)) : ((-(1 : Int)) ≤ (x0 + (-(1 : Int)))) := by omega
theorem q_3515 {x0 x1 : Int} (h0 : ((0 : Int) ≤ x0)) : (((x1 - (2 : Int)) ≤ (x0 + (-(1 : Int)))) ∨ ((-(1 : Int)) ≤ (x0 + (-(1 : Int))))) := by omega
theorem q_3516 {x0 x1 x2 : Int} (h0 : (((0 : Int) ≤ x0) ∧ (x0 ≤ ((9 : Int) * ((x1 - (1 : Int)) - x2))))) : ((x2 + (-(1 : Int))) ≤ (x1 - (2 : Int))) := by omega
theorem q_3517 {x0 x1 : Int} (h0 : (x0 ≤ x1)) (h1 : ((x1 ≤ (0 : Int)) ∨ (x1 ≤ x0))) (h2 : (((0 : Int) ≤ x0) ∧ (x0 ≤ (1000000 : Int)))) : (x1 = x0) := by omega
theorem q_3518 {x0 x1 : Int} (h0 : (x0 < x1)) (h1 : ((0 : Int) ≤ x0)) : (((0 : Int) ≤ x0) ∧ (x0 < x1)) := by omega
theorem q_3519 {x0 x1 : Int} (h0 : (x0 < x1)) (h1 : ((0 : Int) ≤ x0)) (h2 : (((0 : Int) ≤ x1) ∧ (x1 ≤ (1000000 : Int)))) : (inr (x0 + (1 : Int))) := by omega
theorem q_3520 {x0 x1 : Int} (h0 : (((0 : Int) ≤ x0) ∧ (x0 < x1))) : (((x0 + (1 : Int)) ≤ (x0 + (1 : Int))) ∧ ((x0 + (1 : Int)) ≤ x1)) := by omega
theorem q_3521 {x0 : Int} : ((0 : Int) = ((x0 + (1 : Int)) - (x0 + (1 : Int)))) := by omega
theorem q_3522 {x0 x1 : Int} (h0 : (((0 : Int) ≤ x0) ∧ (x0 < x1))) (h1 : (((1 : Int) ≤ x1) ∧ (x1 ≤ (64 : Int)))) : (inr (x0 + (1 : Int))) := by omega
theorem q_3523 {x0 : Int} (h0 : (((1 : Int) ≤ x0) ∧ (x0 ≤ (64 : Int)))) : (inr x0) := by omega
theorem q_3524 {x0 x1 x2 x3 : Int} (h0 : (x0 = (x1 - (x2 + (1 : Int))))) (h1 : (((x2 + (1 : Int)) ≤ x1) ∧ (x1 ≤ x3))) : (((0 : Int) ≤ x0) ∧ ((x2 + x0) < x3)) := by omega
theorem q_3525 {x0 x1 x2 x3 : Int} (h0 : (x0 < x1)) (h1 : (x2 = x1)) (h2 : (((0 : Int) ≤ x3) ∧ (x3 < x1))) (h3 : (((x3 + (1 : Int)) ≤ x0) ∧ (x0 ≤ x1))) : (((0 : Int) ≤ x0) ∧ (x0 < x2)) := by omega
theorem q_3526 {x0 x1 x2 x3 : Int} (h0 : (x0 < x1)) (h1 : (x2 = (x0 - (x3 + (1 : Int))))) (h2 : (((x3 + (1 : Int)) ≤ x0) ∧ (x0 ≤ x1))) : (((0 : Int) ≤ x2) ∧ ((x3 + x2) < x1)) := by omega
theorem q_3527 {x0 x1 x2 : Int} (h0 : (x0 < x1)) (h1 : (((x2 + (1 : Int)) ≤ x0) ∧ (x0 ≤ x1))) : (((x2 + (1 : Int)) ≤ (x0 + (1 : Int))) ∧ ((x0 + (1 : Int)) ≤ x1)) := by omega
theorem q_3528 {x0 x1 x2 : Int} (h0 : (x0 = (x1 - (x2 + (1 : Int))))) : ((x0 + (1 : Int)) = ((x1 + (1 : Int)) - (x2 + (1 : Int)))) := by omega
theorem q_3529 {x0 x1 : Int} (h0 : (x0 < x1)) (h1 : (((1 : Int) ≤ x1) ∧ (x1 ≤ (64 : Int)))) (h2 : (inr x0)) : (inr (x0 + (1 : Int))) := by omega
theorem q_3530 {x0 x1 x2 x3 : Int} (h0 : (x0 < x1)) (h1 : (((0 : Int) ≤ x2) ∧ (x2 < x1))) (h2 : (((1 : Int) ≤ x1) ∧ (x1 ≤ (64 : Int)))) (h3 : (inr x3)) (h4 : (x3 = (x0 - (x2 + (1 : Int))))) : (inr (x3 + (1 : Int))) := by omega
theorem q_3531 {x0 x1 : Int} (h0 : ((x0 = x1) ∧ (((1 : Int) ≤ x1) ∧ (x1 ≤ (64 : Int))))) : (((0 : Int) ≤ (0 : Int)) ∧ ((0 : Int) < x1)) := by omega
theorem q_3532 {x0 : Int} : (((1 : Int) ≤ (1 : Int)) ∨ ((1 : Int) ≤ x0)) := by omega
theorem q_3533 {x0 x1 : Int} (h0 : ((x0 = x1) ∧ (((1 : Int) ≤ x1) ∧ (x1 ≤ (64 : Int))))) : (inr x1) := by omega
theorem q_3534 {x0 x1 x2 : Int} (h0 : (x0 ≤ x1)) (h1 : ((x2 = x0) ∧ (((1 : Int) ≤ x0) ∧ (x0 ≤ (64 : Int))))) (h2 : ((x1 ≤ (1 : Int)) ∨ (x1 ≤ x0))) : (x1 = x0) := by omega
theorem q_3535 {x0 x1 x2 : Int} (h0 : ((x0 = x1) ∧ (((1 : Int) ≤ x1) ∧ (x1 ≤ (64 : Int))))) (h1 : (((0 : Int) ≤ x2) ∧ (x2 < x1))) : (((0 : Int) ≤ x2) ∧ (x2 < x0)) := by omega
theorem q_3536 {x0 x1 : Int} (h0 : (x0 < x1)) (h1 : (inr x1)) (h2 : ((0 : Int) ≤ x0)) : (inr (x0 + (1 : Int))) := by omega
theorem q_3537 {x0 x1 x2 : Int} (h0 : (x0 < x1)) (h1 : ((x2 = x1) ∧ (((1 : Int) ≤ x1) ∧ (x1 ≤ (64 : Int))))) (h2 : ((1 : Int) ≤ x0)) : (((0 : Int) ≤ x0) ∧ (x0 < x2)) := by omega
theorem q_3538 {x0 x1 : Int} (h0 : (x0 < x1)) : (((x0 + (1 : Int)) ≤ (1 : Int)) ∨ ((x0 + (1 : Int)) ≤ x1)) := by omega
theorem q_3539 {x0 x1 x2 : Int} (h0 : (x0 < x1)) (h1 : ((x2 = x1) ∧ (((1 : Int) ≤ x1) ∧ (x1 ≤ (64 : Int))))) (h2 : ((1 : Int) ≤ x0)) : (inr (x0 + (1 : Int))) := by omega
theorem q_3540 {x0 x1 : Int} (h0 : (x0 < x1)) (h1 : ((1 : Int) ≤ x0)) : (((0 : Int) ≤ x0) ∧ (x0 < x1)) := by omega
theorem q_3541 {x0 x1 : Int} : (((x0 = x0) ∧ (((-(1 : Int)) = (-(1 : Int))) ∧ ((0 : Int) ≤ ((2 : Int) * (x1 - x1))))) ∨ (((0 : Int) + (1 : Int)) ≤ ((2 : Int) * (x1 - x1)))) := by omega
theorem q_3542 {x0 x1 x2 : Int} (h0 : ((x0 ≤ x1) ∧ (x2 = x0))) (h1 : (((0 : Int) ≤ x2) ∧ (x2 ≤ (1000000 : Int)))) : (((-(1 : Int)) ≤ (-(1 : Int))) ∧ ((-(1 : Int)) < x0)) := by omega
theorem q_3543 {x0 : Int} : ((x0 = x0) ∨ (((0 : Int) ≤ x0) ∧ (x0 < x0))) := by omega
theorem q_3544 {x0 x1 x2 : Int} (h0 : (x0 = (x1 - x2))) : ((x2 + x0) = x1) := by omega
theorem q_3545 {x0 : Int} : ((((-(1 : Int)) = (-(1 : Int))) ∧ ((-(1 : Int)) = (-(1 : Int)))) ∨ (((0 : Int) ≤ (-(1 : Int))) ∧ (((0 : Int) ≤ (-(1 : Int))) ∧ ((0 : Int) < x0)))) := by omega
theorem q_3546 {x0 x1 : Int} (h0 : (((-(1 : Int)) ≤ x0) ∧ (x0 < x1))) : (((-(1 : Int)) ≤ (-(1 : Int))) ∧ ((-(1 : Int)) < x1)) := by omega
theorem q_3547 {x0 x1 : Int} (h0 : (((-(1 : Int)) ≤ x0) ∧ (x0 < x1))) (h1 : (((-(2147483648 : Int)) ≤ x1) ∧ (x1 ≤ (2147483647 : Int)))) : (inr x1) := by omega
theorem q_3548 {x0 x1 x2 : Int} (h0 : (x0 ≤ x1)) (h1 : ((x1 ≤ (0 : Int)) ∨ (x1 ≤ x0))) (h2 : (((-(1 : Int)) ≤ x2) ∧ (x2 < x0))) : (x1 = x0) := by omega
theorem q_3549 {x0 x1 : Int} : ((((4 : Int) * x0) - (x1 + (1 : Int))) < (((4 : Int) * x0) - x1)) := by omega
theorem q_3550 {x0 x1 : Int} (h0 : (x0 < ((4 : Int) * x1))) : ((0 : Int) < (((4 : Int) * x1) - x0)) := by omega
theorem q_3551 {x0 x1 x2 x3 : Int} (h0 : ((0 : Int) ≤ x0)) (h1 : ((x1 ≤ x2) ∧ (x3 = x1))) (h2 : (((-(1 : Int)) ≤ x0) ∧ (x0 < x1))) : (((0 : Int) ≤ x0) ∧ (x0 < x3)) := by omega
theorem q_3552 {x0 x1 x2 x3 : Int} (h0 : (x0 < x1)) (h1 : ((x1 ≤ x2) ∧ (x3 = x1))) (h2 : ((0 : Int) ≤ x0)) : (((0 : Int) ≤ x0) ∧ (x0 < x2)) := by omega
theorem q_3553 {x0 x1 x2 x3 : Int} (h0 : (x0 < x1)) (h1 : ((x1 ≤ x2) ∧ (x3 = x1))) (h2 : ((0 : Int) ≤ x0)) : (((0 : Int) ≤ x0) ∧ (x0 < x3)) := by omega
theorem q_3554 {x0 x1 x2 x3 : Int} (h0 : (x0 < x1)) (h1 : ((x1 ≤ x2) ∧ (x3 = x1))) (h2 : ((0 : Int) ≤ x0)) (h3 : (((0 : Int) ≤ x3) ∧ (x3 ≤ (1000000 : Int)))) : (inr (x0 + (1 : Int))) := by omega
theorem q_3555 {x0 x1 : Int} (h0 : (x0 < x1)) (h1 : ((0 : Int) ≤ x0)) : (((-(1 : Int)) ≤ x0) ∧ (x0 < x1)) := by omega
theorem q_3556 {x0 x1 x2 x3 x4 : Int} (h0 : (((x0 * x1) % x2) < x3)) (h1 : (x4 < ((x0 * x1) % x2))) (h2 : (inr x3)) (h3 : (inr x4)) : (inr ((x0 * x1) % x2)) := by omega
theorem q_3557 {x0 x1 x2 x3 : Int} (h0 : (((x0 * x1) % x2) = x3)) (h1 : (inr x3)) : (inr ((x0 * x1) % x2)) := by omega
theorem q_3558 {x0 x1 x2 x3 x4 : Int} (h0 : (((x0 * x1) % x2) = x3)) (h1 : (x4 < ((x0 * x1) % x2))) (h2 : (inr x3)) (h3 : (inr x4)) : (inr ((x0 * x1) % x2)) := by omega
theorem q_3559 {x0 x1 x2 x3 : Int} (h0 : (x0 ≤ x1)) (h1 : ((x0 ≤ x2) ∧ (x3 = x0))) (h2 : ((x1 ≤ (0 : Int)) ∨ (x1 ≤ x0))) (h3 : (((0 : Int) ≤ x3) ∧ (x3 ≤ (1000000 : Int)))) : (x1 = x0) := by omega
theorem q_3560 {x0 x1 x2 x3 : Int} (h0 : (x0 = (x1 - x2))) (h1 : ((((0 : Int) < x0) ∧ (x3 = x1)) ∨ ((x0 ≤ (0 : Int)) ∧ (x3 = x2)))) : (((-x0) ≤ (0 : Int)) ∨ ((x1 + (-x0)) ≤ x3)) := by omega
theorem q_3561 {x0 x1 x2 : Int} (h0 : (((-(1 : Int)) ≤ ((x0 * x1) / x2)) ∧ (((x0 * x1) / x2) ≤ (512 : Int)))) : (inr ((x0 * x1) / x2)) := by omega
theorem q_3562 {x0 x1 : Int} (h0 : ((x0 ≤ (512 : Int)) ∧ (((-(512 : Int)) * x1) ≤ x0))) : ((0 : Int) ≤ (x1 + (1 : Int))) := by omega
theorem q_3563 {x0 x1 x2 x3 x4 : Int} (h0 : (x0 < x1)) (h1 : ((x1 ≤ x2) ∧ (x3 = x1))) (h2 : ((x4 ≤ (512 : Int)) ∧ (((-(512 : Int)) * x0) ≤ x4))) (h3 : (((0 : Int) ≤ x3) ∧ (x3 ≤ (1000000 : Int)))) : (inr (x0 + (1 : Int))) := by omega
theorem q_3564 {x0 x1 : Int} (h0 : ((x0 ≤ (512 : Int)) ∧ (((-(512 : Int)) * x1) ≤ x0))) : (((x0 - (1 : Int)) ≤ (512 : Int)) ∧ (((-(512 : Int)) * (x1 + (1 : Int))) ≤ (x0 - (1 : Int)))) := by omega
theorem q_3565 : (((-(1 : Int)) ≤ (-(1 : Int))) ∧ ((-(1 : Int)) ≤ (512 : Int))) := by omega
theorem q_3566 {x0 x1 x2 x3 x4 x5 x6 x7 x8 x9 : Int} (h0 : ((x0 = x1) ∧ ((x2 = x1) ∧ ((x3 = x1) ∧ ((x4 = x1) ∧ ((x5 = x1) ∧ ((x6 = x7) ∧ ((x8 = x7) ∧ (((1 : Int) ≤ x1) ∧ (x1 ≤ (64 : Int))))))))))) (h1 : (((0 : Int) ≤ x9) ∧ (x9 < x1))) : (((0 : Int) ≤ x9) ∧ (x9 < x0)) := by omega
theorem q_3567 {x0 x1 x2 x3 x4 x5 x6 x7 x8 x9 : Int} (h0 : (x0 ≥ (1 : Int))) (h1 : ((x1 = x2) ∧ ((x3 = x2) ∧ ((x4 = x2) ∧ ((x5 = x2) ∧ ((x6 = x2) ∧ ((x7 = x0) ∧ ((x8 = x0) ∧ (((1 : Int) ≤ x2) ∧ (x2 ≤ (64 : Int))))))))))) (h2 : (x9 = (1 : Int))) : ((x1 = x2) ∧ ((x3 = x2) ∧ ((x4 = x2) ∧ ((x5 = x2) ∧ ((x6 = x2) ∧ ((x7 = x0) ∧ ((x8 = x0) ∧ (x9 ≤ x0)))))))) := by omega
theorem q_3568 {x0 : Int} (h0 : ((5 : Int) ≤ x0)) (h1 : (((-(2147483648 : Int)) ≤ x0) ∧ (x0 ≤ (2147483647 : Int)))) : (inr (x0 - (5 : Int))) := by omega
theorem q_3569 {x0 : Int} (h0 : ((32 : Int) ≤ x0)) : ((x0 + (1 : Int)) < ((2 : Int) * x0)) := by omega
theorem q_3570 {x0 : Int} (h0 : ((5 : Int) ≤ x0)) : (((0 : Int) ≤ x0) ∧ (x0 ≤ x0)) := by omega
theorem q_3571 {x0 x1 : Int} (h0 : (x0 = x1)) (h1 : (((0 : Int) ≤ x0) ∧ (x0 ≤ (1000000 : Int)))) : (((0 : Int) ≤ (0 : Int)) ∧ ((0 : Int) ≤ x1)) := by omega
theorem q_3572 {x0 : Int} (h0 : ((5 : Int) ≤ x0)) (h1 : (((-(2147483648 : Int)) ≤ x0) ∧ (x0 ≤ (2147483647 : Int)))) : (inr x0) := by omega
theorem q_3573 {x0 x1 : Int} (h0 : (((0 : Int) ≤ x0) ∧ (x0 ≤ x1))) (h1 : (((-(2147483648 : Int)) ≤ x1) ∧ (x1 ≤ (2147483647 : Int)))) : (inr x1) := by omega
theorem q_3574 {x0 x1 x2 : Int} (h0 : (x0 ≤ x1)) (h1 : (((0 : Int) ≤ x1) ∧ (x1 ≤ x0))) : ((x2 ≤ (0 : Int)) ∨ (x1 = x0)) := by omega
theorem q_3575 {x0 : Int} (h0 : (((0 : Int) ≤ x0) ∧ (x0 ≤ (7 : Int)))) : ((0 : Int) ≤ x0) := by omega
theorem q_3576 {x0 x1 x2 x3 : Int} (h0 : (x0 ≤ x1)) (h1 : ((x2 = (0 : Int)) ∧ (x1 ≤ x3))) : (x0 ≤ x3) := by omega
theorem q_3577 {x0 x1 x2 : Int} (h0 : (x0 ≤ (0 : Int))) : ((x0 ≤ (0 : Int)) ∨ (x1 = x2)) := by omega
theorem q_3578 {x0 x1 x2 : Int} (h0 : (x0 < x1)) (h1 : (x2 = x1)) (h2 : (((0 : Int) ≤ x0) ∧ (x0 ≤ x1))) : (((0 : Int) ≤ x0) ∧ (x0 < x2)) := by omega
theorem q_3579 {x0 x1 x2 x3 x4 : Int} (h0 : (x0 = x1)) (h1 : ((x2 + (1 : Int)) < ((2 : Int) * x3))) (h2 : (((x1 ≥ (0 : Int)) ∧ (((-(2147483648 : Int)) ≤ x0) ∧ ((x0 ≤ (2147483647 : Int)) ∧ (x4 = x0)))) ∨ ((x1 < (0 : Int)) ∧ (x4 = (1 : Int))))) : (((x2 - x4) + (1 : Int)) < ((2 : Int) * x3)) := by omega
theorem q_3580 {x0 x1 x2 : Int} (h0 : (x0 < x1)) (h1 : (x2 = x1)) (h2 : (((0 : Int) ≤ x0) ∧ (x0 ≤ x1))) (h3 : (((0 : Int) ≤ x2) ∧ (x2 ≤ (1000000 : Int)))) : (inr (x0 + (1 : Int))) := by omega
theorem q_3581 {x0 x1 x2 x3 : Int} (h0 : ((0 : Int) < x0)) (h1 : (x1 = x2)) (h2 : (inr x0)) (h3 : (inr x3)) (h4 : (((x2 ≥ (0 : Int)) ∧ (((-(2147483648 : Int)) ≤ x1) ∧ ((x1 ≤ (2147483647 : Int)) ∧ (x3 = x1)))) ∨ ((x2 < (0 : Int)) ∧ (x3 = (1 : Int))))) : (inr (x0 - x3)) := by omega
theorem q_3582 {x0 x1 x2 : Int} (h0 : (((0 : Int) ≤ x0) ∧ ((x1 + x0) < x2))) : ((((x1 + x0) + (1 : Int)) < x2) ∨ (((x1 + x0) + (1 : Int)) = x2)) := by omega
theorem q_3583 : ((inr (3 : Int)) ∧ ((0 : Int) < (3 : Int))) := by omega
theorem q_3584 {x0 x1 x2 : Int} (h0 : (inr x0)) (h1 : (((0 : Int) ≤ x0) ∧ ((x1 + x0) < x2))) : ((inr x0) ∧ ((0 : Int) ≤ x0)) := by omega
theorem q_3585 {x0 x1 x2 : Int} (h0 : (inr x0)) (h1 : (((0 : Int) ≤ x0) ∧ ((x1 + x0) < x2))) : (inr (x0 / (3 : Int))) := by omega
theorem q_3586 {x0 : Int} : (inr (x0 % (3 : Int))) := by omega
theorem q_3587 {x0 x1 x2 : Int} (h0 : (((x0 + x1) + (1 : Int)) < x2)) (h1 : (((0 : Int) ≤ x0) ∧ (x0 ≤ x2))) (h2 : (((0 : Int) ≤ x1) ∧ ((x0 + x1) < x2))) : (((0 : Int) ≤ ((x0 + x1) + (1 : Int))) ∧ (((x0 + x1) + (1 : Int)) ≤ x2)) := by omega
theorem q_3588 {x0 x1 x2 : Int} (h0 : (((x0 + x1) + (1 : Int)) < x2)) (h1 : (((0 : Int) ≤ x0) ∧ (x0 ≤ x2))) (h2 : (((0 : Int) ≤ x1) ∧ ((x0 + x1) < x2))) (h3 : (((-(2147483648 : Int)) ≤ x2) ∧ (x2 ≤ (2147483647 : Int)))) : (inr ((x0 + x1) + (1 : Int))) := by omega
theorem q_3589 {x0 x1 x2 : Int} (h0 : (((0 : Int) ≤ x0) ∧ ((x1 + x0) < x2))) : ((x2 - ((x1 + x0) + (1 : Int))) < (x2 - x1)) := by omega
theorem q_3590 {x0 x1 : Int} : (((x0 / (3 : Int)) - (x1 + (1 : Int))) < ((x0 / (3 : Int)) - x1)) := by omega
theorem q_3591 {x0 x1 : Int} (h0 : (x0 < (x1 / (3 : Int)))) : ((0 : Int) < ((x1 / (3 : Int)) - x0)) := by omega
theorem q_3592 {x0 x1 x2 x3 x4 x5 : Int} (h0 : ((0 : Int) < x0)) (h1 : (x1 ≤ (x2 + (1 : Int)))) (h2 : (x3 = (0 : Int))) (h3 : (x4 = x2)) (h4 : (x4 = x3)) (h5 : ((x0 + (1 : Int)) < ((2 : Int) * x1))) (h6 : (inr x5)) : (((x0 - x5) + (1 : Int)) < ((2 : Int) * x1)) := by omega
theorem q_3593 {x0 x1 x2 x3 x4 x5 x6 x7 : Int} (h0 : ((0 : Int) < x0)) (h1 : (x1 ≤ (x2 + (1 : Int)))) (h2 : (x3 = (0 : Int))) (h3 : (x4 = x2)) (h4 : (x4 = x3)) (h5 : ((x0 + (1 : Int)) < ((2 : Int) * x1))) : ((x0 - x5) = (x6 - x7)) := by omega
theorem q_3594 {x0 x1 x2 x3 x4 x5 : Int} (h0 : ((0 : Int) < x0)) (h1 : (x1 ≤ (x2 + (1 : Int)))) (h2 : (x3 = (0 : Int))) (h3 : (x4 = x2)) (h4 : (x4 = x3)) (h5 : ((x0 + (1 : Int)) < ((2 : Int) * x1))) (h6 : (inr x5)) : (inr (x0 - x5)) := by omega
theorem q_3595 {x0 x1 x2 : Int} (h0 : ((0 : Int) ≤ x0)) (h1 : (x1 = x2)) (h2 : (x1 = x0)) (h3 : (inr x2)) : (((x0 ≥ (0 : Int)) ∧ (((-(2147483648 : Int)) ≤ x1) ∧ ((x1 ≤ (2147483647 : Int)) ∧ (x2 = x1)))) ∨ ((x0 < (0 : Int)) ∧ (x2 = (1 : Int)))) := by omega
theorem q_3596 {x0 x1 x2 x3 x4 : Int} (h0 : (x0 < (0 : Int))) (h1 : ((0 : Int) < x1)) (h2 : (x2 ≤ (x3 + (1 : Int)))) (h3 : (((((2 : Int) * x2) - (2 : Int)) - x1) ≤ (x3 + (1 : Int)))) (h4 : (x4 = x3)) (h5 : (x4 = x0)) (h6 : ((x1 + (1 : Int)) < ((2 : Int) * x2))) (h7 : (inr x0)) : (((x0 ≥ (0 : Int)) ∧ (((-(2147483648 : Int)) ≤ x4) ∧ ((x4 ≤ (2147483647 : Int)) ∧ ((1 : Int) = x4)))) ∨ ((x0 < (0 : Int)) ∧ ((1 : Int) = (1 : Int)))) := by omega
theorem q_3597 {x0 x1 x2 x3 x4 : Int} (h0 : ((0 : Int) < x0)) (h1 : (x1 ≤ (x2 + (1 : Int)))) (h2 : ((x2 + (1 : Int)) < ((((2 : Int) * x1) - (2 : Int)) - x0))) (h3 : ((x3 ≠ (0 : Int)) ∨ (x1 = (1 : Int)))) (h4 : (inr x3)) (h5 : (((0 : Int) ≤ x3) ∧ (x3 ≤ x4))) (h6 : ((x3 ≤ (0 : Int)) ∨ ((x3 > (0 : Int)) ∧ ((x0 + (1 : Int)) ≥ x1)))) : (((0 : Int) ≤ x3) ∧ (x3 ≤ (31 : Int))) := by omega
theorem q_3598 {x0 x1 x2 x3 x4 x5 : Int} (h0 : (x0 = (0 : Int))) (h1 : ((0 : Int) < x1)) (h2 : (x2 ≤ (x3 + (1 : Int)))) (h3 : ((x3 + (1 : Int)) < ((((2 : Int) * x2) - (2 : Int)) - x1))) (h4 : (x4 = x0)) (h5 : (x4 = x3)) (h6 : (inr x5)) : (((x1 - x5) + (1 : Int)) < ((2 : Int) * x2)) := by omega
theorem q_3599 {x0 x1 x2 x3 x4 x5 x6 x7 : Int} (h0 : (x0 = (0 : Int))) (h1 : ((0 : Int) < x1)) (h2 : (x2 ≤ (x3 + (1 : Int)))) (h3 : ((x3 + (1 : Int)) < ((((2 : Int) * x2) - (2 : Int)) - x1))) (h4 : (x4 = x0)) (h5 : (x4 = x3)) : ((x1 - x5) = (x6 - x7)) := by omega
theorem q_3600 {x0 x1 x2 x3 x4 x5 : Int} (h0 : (x0 = (0 : Int))) (h1 : ((0 : Int) < x1)) (h2 : (x2 ≤ (x3 + (1 : Int)))) (h3 : ((x3 + (1 : Int)) < ((((2 : Int) * x2) - (2 : Int)) - x1))) (h4 : (x4 = x0)) (h5 : (x4 = x3)) (h6 : (inr x5)) : (inr (x1 - x5)) := by omega
theorem q_3601 {x0 x1 x2 x3 x4 : Int} (h0 : (x0 < (0 : Int))) (h1 : ((0 : Int) < x1)) (h2 : (x2 ≤ (x3 + (1 : Int)))) (h3 : ((x3 + (1 : Int)) < ((((2 : Int) * x2) - (2 : Int)) - x1))) (h4 : (x4 = x0)) (h5 : (x4 = x3)) (h6 : ((x1 + (1 : Int)) < ((2 : Int) * x2))) (h7 : (inr x0)) : (((x0 ≥ (0 : Int)) ∧ (((-(2147483648 : Int)) ≤ x4) ∧ ((x4 ≤ (2147483647 : Int)) ∧ ((1 : Int) = x4)))) ∨ ((x0 < (0 : Int)) ∧ ((1 : Int) = (1 : Int)))) := by omega
theorem q_3602 {x0 x1 : Int} (h0 : ((0 : Int) < x0)) (h1 : (((0 : Int) ≤ x0) ∧ (x0 ≤ x1))) : (((0 : Int) ≤ (x0 + (-(1 : Int)))) ∧ ((x0 + (-(1 : Int))) ≤ x1)) := by omega
theorem q_3603 {x0 : Int} (h0 : ((256 : Int) ≤ x0)) (h1 : ((x0 ≤ (0 : Int)) ∨ (x0 ≤ (256 : Int)))) : (x0 = (256 : Int)) := by omega
theorem q_3604 {x0 x1 : Int} (h0 : (x0 = (256 : Int))) (h1 : (((0 : Int) ≤ x1) ∧ (x1 ≤ x0))) : (((0 : Int) ≤ x1) ∧ (x1 ≤ (256 : Int))) := by omega
theorem q_3605 {x0 x1 x2 x3 : Int} (h0 : (x0 < (256 : Int))) (h1 : ((x1 = (512 : Int)) ∧ ((x2 = (256 : Int)) ∧ (x3 = (256 : Int))))) (h2 : ((0 : Int) ≤ x0)) : (((0 : Int) ≤ x0) ∧ (x0 < x3)) := by omega
theorem q_3606 {x0 x1 : Int} (h0 : (((0 : Int) ≤ x0) ∧ (x0 ≤ x1))) : (((0 : Int) ≤ x0) ∧ (x0 ≤ x0)) := by omega
theorem q_3607 {x0 x1 x2 x3 x4 x5 : Int} (h0 : (x0 < (256 : Int))) (h1 : ((x1 = (512 : Int)) ∧ ((x2 = (256 : Int)) ∧ (x3 = (256 : Int))))) (h2 : (((0 : Int) ≤ x4) ∧ (x4 ≤ x5))) (h3 : (((0 : Int) ≤ x5) ∧ (x5 ≤ x0))) (h4 : (((0 : Int) ≤ x1) ∧ (x1 ≤ (1000000 : Int)))) : (((0 : Int) ≤ x4) ∧ (x4 < x1)) := by omega
theorem q_3608 {x0 x1 x2 x3 x4 x5 : Int} (h0 : (x0 < (256 : Int))) (h1 : ((x1 = (512 : Int)) ∧ ((x2 = (256 : Int)) ∧ (x3 = (256 : Int))))) (h2 : (((0 : Int) ≤ x4) ∧ (x4 ≤ x5))) (h3 : (((0 : Int) ≤ x5) ∧ (x5 ≤ x0))) : (((0 : Int) ≤ x4) ∧ (x4 < x2)) := by omega
theorem q_3609 {x0 x1 : Int} (h0 : (x0 < (256 : Int))) (h1 : (((0 : Int) ≤ x1) ∧ (x1 ≤ x0))) : (((-(2147483648 : Int)) ≤ (x1 + (1 : Int))) ∧ ((x1 + (1 : Int)) ≤ (2147483647 : Int))) := by omega
theorem q_3610 {x0 x1 x2 : Int} (h0 : (x0 ≤ (0 : Int))) : ((x0 ≤ (0 : Int)) ∨ ((x0 > (0 : Int)) ∧ (((-(2147483648 : Int)) ≤ x1) ∧ ((x1 ≤ (2147483647 : Int)) ∧ (x1 ≤ x2))))) := by omega
theorem q_3611 {x0 x1 x2 x3 x4 x5 : Int} (h0 : ((0 : Int) < x0)) (h1 : (x1 < (256 : Int))) (h2 : ((x2 = (512 : Int)) ∧ ((x3 = (256 : Int)) ∧ (x4 = (256 : Int))))) (h3 : (((0 : Int) ≤ x0) ∧ (x0 ≤ x5))) (h4 : (((0 : Int) ≤ x5) ∧ (x5 ≤ x1))) (h5 : (((0 : Int) ≤ x2) ∧ (x2 ≤ (1000000 : Int)))) : (((0 : Int) ≤ (x0 - (1 : Int))) ∧ ((x0 - (1 : Int)) < x2)) := by omega
theorem q_3612 {x0 x1 x2 x3 : Int} (h0 : ((0 : Int) < x0)) (h1 : (x1 ≤ x2)) (h2 : (x3 = x1)) (h3 : (inr x1)) : ((x0 ≤ (0 : Int)) ∨ ((x0 > (0 : Int)) ∧ (((-(2147483648 : Int)) ≤ x3) ∧ ((x3 ≤ (2147483647 : Int)) ∧ (x3 ≤ x2))))) := by omega
theorem q_3613 {x0 x1 x2 x3 x4 x5 : Int} (h0 : ((0 : Int) < x0)) (h1 : (x1 < (256 : Int))) (h2 : ((x2 = (512 : Int)) ∧ ((x3 = (256 : Int)) ∧ (x4 = (256 : Int))))) (h3 : (((0 : Int) ≤ x0) ∧ (x0 ≤ x5))) (h4 : (((0 : Int) ≤ x5) ∧ (x5 ≤ x1))) (h5 : (((0 : Int) ≤ x3) ∧ (x3 ≤ (1000000 : Int)))) : (((0 : Int) ≤ (x0 - (1 : Int))) ∧ ((x0 - (1 : Int)) < x3)) := by omega
theorem q_3614 {x0 x1 x2 x3 : Int} (h0 : (((0 : Int) ≤ x0) ∧ ((x0 ≤ x1) ∧ ((x1 ≤ x2) ∧ ((x2 ≤ x3) ∧ (x3 ≤ (511 : Int))))))) : (((-(2147483648 : Int)) ≤ (x2 + (1 : Int))) ∧ ((x2 + (1 : Int)) ≤ (2147483647 : Int))) := by omega
theorem q_3615 {x0 x1 x2 x3 x4 x5 : Int} (h0 : (((0 : Int) ≤ x0) ∧ ((x0 ≤ x1) ∧ ((x1 ≤ x2) ∧ ((x2 ≤ x3) ∧ (x3 ≤ (511 : Int))))))) (h1 : (((x0 < x1) ∧ ((x2 = x0) ∧ ((x0 = (x0 + (1 : Int))) ∧ (((x2 + (1 : Int)) = x2) ∧ ((x3 ≤ x2) ∨ (x4 ≤ x5)))))) ∨ ((x2 < x3) ∧ ((x2 = x2) ∧ ((x0 = x0) ∧ (((x2 + (1 : Int)) = (x2 + (1 : Int))) ∧ ((x1 ≤ x0) ∨ (x5 < x4)))))))) : (((x0 + (x2 + (1 : Int))) = ((x0 + x2) + (1 : Int))) ∧ (((0 : Int) ≤ x0) ∧ ((x0 ≤ x1) ∧ ((x1 ≤ (x2 + (1 : Int))) ∧ ((x2 + (1 : Int)) ≤ x3))))) := by omega
theorem q_3616 {x0 x1 x2 x3 x4 x5 : Int} (h0 : (((0 : Int) ≤ x0) ∧ ((x0 ≤ x1) ∧ ((x1 ≤ x2) ∧ ((x2 ≤ x3) ∧ (x3 ≤ (511 : Int))))))) (h1 : (((x0 < x1) ∧ ((x2 = x0) ∧ ((x0 = (x0 + (1 : Int))) ∧ (((x2 + (1 : Int)) = x2) ∧ ((x3 ≤ x2) ∨ (x4 ≤ x5)))))) ∨ ((x2 < x3) ∧ ((x2 = x2) ∧ ((x0 = x0) ∧ (((x2 + (1 : Int)) = (x2 + (1 : Int))) ∧ ((x1 ≤ x0) ∨ (x5 < x4)))))))) : (((0 : Int) ≤ x2) ∧ (x2 < x3)) := by omega
theorem q_3617 {x0 x1 x2 x3 : Int} (h0 : (((0 : Int) ≤ x0) ∧ ((x0 ≤ x1) ∧ ((x1 ≤ x2) ∧ ((x2 ≤ x3) ∧ (x3 ≤ (511 : Int))))))) : (inr x2) := by omega
theorem q_3618 {x0 x1 x2 x3 : Int} (h0 : (((0 : Int) ≤ x0) ∧ ((x0 ≤ x1) ∧ ((x1 ≤ x2) ∧ ((x2 ≤ x3) ∧ (x3 ≤ (511 : Int))))))) : (((-(2147483648 : Int)) ≤ (x0 + (1 : Int))) ∧ ((x0 + (1 : Int)) ≤ (2147483647 : Int))) := by omega
theorem q_3619 {x0 x1 x2 x3 x4 x5 : Int} (h0 : (((0 : Int) ≤ x0) ∧ ((x0 ≤ x1) ∧ ((x1 ≤ x2) ∧ ((x2 ≤ x3) ∧ (x3 ≤ (511 : Int))))))) (h1 : (((x0 < x1) ∧ ((x0 = x0) ∧ (((x0 + (1 : Int)) = (x0 + (1 : Int))) ∧ ((x2 = x2) ∧ ((x3 ≤ x2) ∨ (x4 ≤ x5)))))) ∨ ((x2 < x3) ∧ ((x0 = x2) ∧ (((x0 + (1 : Int)) = x0) ∧ ((x2 = (x2 + (1 : Int))) ∧ ((x1 ≤ x0) ∨ (x5 < x4)))))))) : ((((x0 + (1 : Int)) + x2) = ((x0 + x2) + (1 : Int))) ∧ (((0 : Int) ≤ (x0 + (1 : Int))) ∧ (((x0 + (1 : Int)) ≤ x1) ∧ ((x1 ≤ x2) ∧ (x2 ≤ x3))))) := by omega
theorem q_3620 {x0 x1 x2 x3 x4 x5 : Int} (h0 : (((0 : Int) ≤ x0) ∧ ((x0 ≤ x1) ∧ ((x1 ≤ x2) ∧ ((x2 ≤ x3) ∧ (x3 ≤ (511 : Int))))))) (h1 : (((x0 < x1) ∧ ((x0 = x0) ∧ (((x0 + (1 : Int)) = (x0 + (1 : Int))) ∧ ((x2 = x2) ∧ ((x3 ≤ x2) ∨ (x4 ≤ x5)))))) ∨ ((x2 < x3) ∧ ((x0 = x2) ∧ (((x0 + (1 : Int)) = x0) ∧ ((x2 = (x2 + (1 : Int))) ∧ ((x1 ≤ x0) ∨ (x5 < x4)))))))) : (((0 : Int) ≤ x0) ∧ (x0 < x3)) := by omega
theorem q_3621 {x0 x1 x2 x3 : Int} (h0 : (((0 : Int) ≤ x0) ∧ ((x0 ≤ x1) ∧ ((x1 ≤ x2) ∧ ((x2 ≤ x3) ∧ (x3 ≤ (511 : Int))))))) : (inr x0) := by omega
theorem q_3622 {x0 x1 x2 x3 : Int} (h0 : (((0 : Int) ≤ x0) ∧ ((x0 ≤ x1) ∧ ((x1 ≤ x2) ∧ ((x2 ≤ x3) ∧ (x3 ≤ (511 : Int))))))) : (inr x1) := by omega
theorem q_3623 {x0 x1 x2 x3 x4 x5 : Int} (h0 : (x0 ≤ x1)) : (((x1 ≥ x0) ∧ ((0 : Int) = (0 : Int))) ∨ (((x1 < x0) ∧ ((x2 ≥ x3) ∧ ((0 : Int) = (1 : Int)))) ∨ (((x1 < x0) ∧ ((x2 < x3) ∧ (((-(2147483648 : Int)) ≤ x4) ∧ ((x4 ≤ (2147483647 : Int)) ∧ (((-(2147483648 : Int)) ≤ x5) ∧ ((x5 ≤ (2147483647 : Int)) ∧ ((x4 > x5) ∧ ((0 : Int) = (0 : Int))))))))) ∨ ((x1 < x0) ∧ ((x2 < x3) ∧ (((-(2147483648 : Int)) ≤ x4) ∧ ((x4 ≤ (2147483647 : Int)) ∧ (((-(2147483648 : Int)) ≤ x5) ∧ ((x5 ≤ (2147483647 : Int)) ∧ ((x4 ≤ x5) ∧ ((0 : Int) = (1 : Int)))))))))))) := by omega
theorem q_3624 {x0 x1 x2 x3 : Int} (h0 : (((0 : Int) ≤ x0) ∧ ((x0 ≤ x1) ∧ ((x1 ≤ x2) ∧ ((x2 ≤ x3) ∧ (x3 ≤ (511 : Int))))))) : (inr x3) := by omega
theorem q_3625 {x0 x1 x2 x3 x4 x5 : Int} (h0 : (x0 ≤ x1)) (h1 : (x2 < x3)) : (((x2 ≥ x3) ∧ ((1 : Int) = (0 : Int))) ∨ (((x2 < x3) ∧ ((x1 ≥ x0) ∧ ((1 : Int) = (1 : Int)))) ∨ (((x2 < x3) ∧ ((x1 < x0) ∧ (((-(2147483648 : Int)) ≤ x4) ∧ ((x4 ≤ (2147483647 : Int)) ∧ (((-(2147483648 : Int)) ≤ x5) ∧ ((x5 ≤ (2147483647 : Int)) ∧ ((x4 > x5) ∧ ((1 : Int) = (0 : Int))))))))) ∨ ((x2 < x3) ∧ ((x1 < x0) ∧ (((-(2147483648 : Int)) ≤ x4) ∧ ((x4 ≤ (2147483647 : Int)) ∧ (((-(2147483648 : Int)) ≤ x5) ∧ ((x5 ≤ (2147483647 : Int)) ∧ ((x4 ≤ x5) ∧ ((1 : Int) = (1 : Int)))))))))))) := by omega
theorem q_3626 {x0 x1 x2 x3 x4 : Int} (h0 : (x0 < x1)) (h1 : (((0 : Int) ≤ x0) ∧ ((x0 ≤ x1) ∧ ((x1 ≤ x2) ∧ ((x2 ≤ x3) ∧ (x3 ≤ (511 : Int))))))) (h2 : (x4 = (512 : Int))) (h3 : (((0 : Int) ≤ x4) ∧ (x4 ≤ (1000000 : Int)))) : (((0 : Int) ≤ x0) ∧ (x0 < x4)) := by omega
theorem q_3627 {x0 x1 x2 x3 x4 : Int} (h0 : (x0 < x1)) (h1 : (((0 : Int) ≤ x2) ∧ ((x2 ≤ x3) ∧ ((x3 ≤ x0) ∧ ((x0 ≤ x1) ∧ (x1 ≤ (511 : Int))))))) (h2 : (x4 = (512 : Int))) (h3 : (((0 : Int) ≤ x4) ∧ (x4 ≤ (1000000 : Int)))) : (((0 : Int) ≤ x0) ∧ (x0 < x4)) := by omega
theorem q_3628 {x0 x1 x2 x3 x4 x5 x6 x7 : Int} (h0 : (x0 < x1)) (h1 : (x2 < x3)) (h2 : (x4 < x5)) (h3 : (x6 = x3)) (h4 : (x7 = x2)) (h5 : (inr x3)) (h6 : (inr x2)) : (((x4 ≥ x5) ∧ ((0 : Int) = (0 : Int))) ∨ (((x4 < x5) ∧ ((x0 ≥ x1) ∧ ((0 : Int) = (1 : Int)))) ∨ (((x4 < x5) ∧ ((x0 < x1) ∧ (((-(2147483648 : Int)) ≤ x6) ∧ ((x6 ≤ (2147483647 : Int)) ∧ (((-(2147483648 : Int)) ≤ x7) ∧ ((x7 ≤ (2147483647 : Int)) ∧ ((x6 > x7) ∧ ((0 : Int) = (0 : Int))))))))) ∨ ((x4 < x5) ∧ ((x0 < x1) ∧ (((-(2147483648 : Int)) ≤ x6) ∧ ((x6 ≤ (2147483647 : Int)) ∧ (((-(2147483648 : Int)) ≤ x7) ∧ ((x7 ≤ (2147483647 : Int)) ∧ ((x6 ≤ x7) ∧ ((0 : Int) = (1 : Int)))))))))))) := by omega
theorem q_3629 {x0 x1 x2 x3 x4 x5 x6 x7 : Int} (h0 : (x0 < x1)) (h1 : (x2 ≤ x3)) (h2 : (x4 < x5)) (h3 : (x6 = x2)) (h4 : (x7 = x3)) (h5 : (inr x2)) (h6 : (inr x3)) : (((x4 ≥ x5) ∧ ((1 : Int) = (0 : Int))) ∨ (((x4 < x5) ∧ ((x0 ≥ x1) ∧ ((1 : Int) = (1 : Int)))) ∨ (((x4 < x5) ∧ ((x0 < x1) ∧ (((-(2147483648 : Int)) ≤ x6) ∧ ((x6 ≤ (2147483647 : Int)) ∧ (((-(2147483648 : Int)) ≤ x7) ∧ ((x7 ≤ (2147483647 : Int)) ∧ ((x6 > x7) ∧ ((1 : Int) = (0 : Int))))))))) ∨ ((x4 < x5) ∧ ((x0 < x1) ∧ (((-(2147483648 : Int)) ≤ x6) ∧ ((x6 ≤ (2147483647 : Int)) ∧ (((-(2147483648 : Int)) ≤ x7) ∧ ((x7 ≤ (2147483647 : Int)) ∧ ((x6 ≤ x7) ∧ ((1 : Int) = (1 : Int)))))))))))) := by omega
theorem q_3630 {x0 : Int} (h0 : (((2 : Int) ≤ x0) ∧ (x0 ≤ (256 : Int)))) : (((0 : Int) ≤ (0 : Int)) ∧ (((0 : Int) ≤ x0) ∧ ((x0 ≤ x0) ∧ ((x0 ≤ x0) ∧ ((((x0 - (0 : Int)) + (x0 - x0)) + (x0 - x0)) = x0))))) := by omega
theorem q_3631 {x0 : Int} : (x0 = ((x0 + (1 : Int)) - (1 : Int))) := by omega
theorem q_3632 {x0 : Int} (h0 : (((2 : Int) ≤ x0) ∧ (x0 ≤ (256 : Int)))) : (inr x0) := by omega
theorem q_3633 {x0 x1 x2 x3 x4 : Int} (h0 : (x0 ≤ x1)) (h1 : (((2 : Int) ≤ x0) ∧ (x0 ≤ (256 : Int)))) (h2 : ((x1 ≤ (1 : Int)) ∨ (x1 ≤ x0))) (h3 : (x2 = ((x0 + x1) - (1 : Int)))) (h4 : (((0 : Int) ≤ x3) ∧ ((x3 ≤ x0) ∧ ((x0 ≤ x4) ∧ ((x4 ≤ x2) ∧ ((((x0 - x3) + (x2 - x4)) + (x2 - x0)) = x0)))))) : (x2 = (((2 : Int) * x0) - (1 : Int))) := by omega
theorem q_3634 {x0 x1 : Int} (h0 : ((x0 = (512 : Int)) ∧ (x1 = (512 : Int)))) : (x0 = (512 : Int)) := by omega
theorem q_3635 {x0 x1 x2 x3 x4 : Int} (h0 : (x0 < x1)) (h1 : (x2 = ((x1 + x0) - (1 : Int)))) (h2 : (((0 : Int) ≤ x3) ∧ ((x3 ≤ x1) ∧ ((x1 ≤ x4) ∧ ((x4 ≤ x2) ∧ ((((x1 - x3) + (x2 - x4)) + (x2 - x1)) = x1)))))) : ((x3 < x1) ∨ (x4 < x2)) := by omega
theorem q_3636 {x0 x1 x2 x3 x4 : Int} (h0 : (x0 < x1)) (h1 : (((2 : Int) ≤ x1) ∧ (x1 ≤ (256 : Int)))) (h2 : (x2 = ((x1 + x0) - (1 : Int)))) (h3 : (((0 : Int) ≤ x3) ∧ ((x3 ≤ x1) ∧ ((x1 ≤ x4) ∧ ((x4 ≤ x2) ∧ ((((x1 - x3) + (x2 - x4)) + (x2 - x1)) = x1)))))) : (((0 : Int) ≤ x3) ∧ ((x3 ≤ x1) ∧ ((x1 ≤ x4) ∧ ((x4 ≤ x2) ∧ (x2 ≤ (511 : Int)))))) := by omega
theorem q_3637 {x0 x1 x2 x3 x4 x5 x6 : Int} (h0 : (x0 < x1)) (h1 : (x2 = ((x1 + x0) - (1 : Int)))) (h2 : (((0 : Int) ≤ x3) ∧ ((x3 ≤ x1) ∧ ((x1 ≤ x4) ∧ ((x4 ≤ x2) ∧ ((((x1 - x3) + (x2 - x4)) + (x2 - x1)) = x1)))))) (h3 : (((x5 + x6) = ((x3 + x4) + (1 : Int))) ∧ (((0 : Int) ≤ x5) ∧ ((x5 ≤ x1) ∧ ((x1 ≤ x6) ∧ (x6 ≤ x2)))))) : ((x5 < x1) ∨ (x6 < x2)) := by omega
theorem q_3638 {x0 x1 x2 x3 x4 x5 x6 : Int} (h0 : (x0 < x1)) (h1 : (((2 : Int) ≤ x1) ∧ (x1 ≤ (256 : Int)))) (h2 : (x2 = ((x1 + x0) - (1 : Int)))) (h3 : (((x3 + x4) = ((x5 + x6) + (1 : Int))) ∧ (((0 : Int) ≤ x3) ∧ ((x3 ≤ x1) ∧ ((x1 ≤ x4) ∧ (x4 ≤ x2)))))) : (((0 : Int) ≤ x3) ∧ ((x3 ≤ x1) ∧ ((x1 ≤ x4) ∧ ((x4 ≤ x2) ∧ (x2 ≤ (511 : Int)))))) := by omega
theorem q_3639 {x0 x1 : Int} (h0 : (((0 : Int) ≤ x0) ∧ (x0 < x1))) (h1 : (((-(2147483648 : Int)) ≤ x1) ∧ (x1 ≤ (2147483647 : Int)))) : (inr x1) := by omega
theorem q_3640 {x0 x1 x2 x3 x4 x5 : Int} (h0 : (x0 < x1)) (h1 : ((x2 = (512 : Int)) ∧ (x3 = (512 : Int)))) (h2 : (((2 : Int) ≤ x1) ∧ (x1 ≤ (256 : Int)))) (h3 : (x4 = ((x1 + x0) - (1 : Int)))) (h4 : (((0 : Int) ≤ x5) ∧ (x5 < x4))) (h5 : (((0 : Int) ≤ x3) ∧ (x3 ≤ (1000000 : Int)))) : (((0 : Int) ≤ x5) ∧ (x5 < x3)) := by omega
theorem q_3641 {x0 x1 x2 x3 x4 x5 : Int} (h0 : (x0 < x1)) (h1 : ((x2 = (512 : Int)) ∧ (x3 = (512 : Int)))) (h2 : (((2 : Int) ≤ x1) ∧ (x1 ≤ (256 : Int)))) (h3 : (x4 = ((x1 + x0) - (1 : Int)))) (h4 : (((0 : Int) ≤ x5) ∧ (x5 < x4))) (h5 : (((0 : Int) ≤ x2) ∧ (x2 ≤ (1000000 : Int)))) : (((0 : Int) ≤ x5) ∧ (x5 < x2)) := by omega
theorem q_3642 {x0 x1 x2 x3 x4 x5 : Int} (h0 : (x0 < x1)) (h1 : ((x2 = (512 : Int)) ∧ (x3 = (512 : Int)))) (h2 : (((2 : Int) ≤ x1) ∧ (x1 ≤ (256 : Int)))) (h3 : (x4 = ((x1 + x0) - (1 : Int)))) (h4 : (((0 : Int) ≤ x5) ∧ (x5 < x4))) (h5 : (((0 : Int) ≤ x2) ∧ (x2 ≤ (1000000 : Int)))) : (((0 : Int) ≤ x4) ∧ (x4 < x2)) := by omega
theorem q_3643 {x0 x1 x2 x3 : Int} (h0 : (x0 < x1)) (h1 : (((2 : Int) ≤ x1) ∧ (x1 ≤ (256 : Int)))) (h2 : (x2 = ((x1 + x0) - (1 : Int)))) (h3 : (((0 : Int) ≤ x3) ∧ (x3 < x2))) : (((-(2147483648 : Int)) ≤ (x2 + (1 : Int))) ∧ ((x2 + (1 : Int)) ≤ (2147483647 : Int))) := by omega
theorem q_3644 {x0 x1 x2 x3 x4 x5 x6 x7 : Int} (h0 : (((0 : Int) ≤ x0) ∧ ((x0 ≤ x1) ∧ ((x1 ≤ x2) ∧ ((x2 ≤ x3) ∧ ((((x1 - x0) + (x3 - x2)) + (x3 - x1)) = x1)))))) (h1 : (((x4 + x5) = ((x0 + x2) + (1 : Int))) ∧ (((0 : Int) ≤ x4) ∧ ((x4 ≤ x1) ∧ ((x1 ≤ x5) ∧ (x5 ≤ x3)))))) (h2 : (((x6 + x7) = ((x4 + x5) + (1 : Int))) ∧ (((0 : Int) ≤ x6) ∧ ((x6 ≤ x1) ∧ ((x1 ≤ x7) ∧ (x7 ≤ x3)))))) : (((0 : Int) ≤ x6) ∧ ((x6 ≤ x1) ∧ ((x1 ≤ x7) ∧ ((x7 ≤ (x3 + (1 : Int))) ∧ ((((x1 - x6) + ((x3 + (1 : Int)) - x7)) + ((x3 + (1 : Int)) - x1)) = x1))))) := by omega
theorem q_3645 {x0 x1 x2 : Int} (h0 : (x0 = ((x1 + x2) - (1 : Int)))) : ((x0 + (1 : Int)) = ((x1 + (x2 + (1 : Int))) - (1 : Int))) := by omega
theorem q_3646 {x0 x1 : Int} (h0 : (x0 < x1)) (h1 : (((2 : Int) ≤ x1) ∧ (x1 ≤ (256 : Int)))) (h2 : ((1 : Int) ≤ x0)) : (inr (x0 + (1 : Int))) := by omega
theorem q_3647 {x0 x1 x2 x3 x4 x5 : Int} (h0 : ((x0 = (512 : Int)) ∧ ((x1 = (512 : Int)) ∧ ((x2 = (256 : Int)) ∧ (x3 = (256 : Int)))))) (h1 : (((2 : Int) ≤ x4) ∧ (x4 ≤ (256 : Int)))) (h2 : (x5 = (((2 : Int) * x4) - (1 : Int)))) (h3 : (((0 : Int) ≤ x0) ∧ (x0 ≤ (1000000 : Int)))) : (((0 : Int) ≤ (x5 - (1 : Int))) ∧ ((x5 - (1 : Int)) < x0)) := by omega
theorem q_3648 {x0 x1 : Int} (h0 : (((2 : Int) ≤ x0) ∧ (x0 ≤ (256 : Int)))) (h1 : (x1 = (((2 : Int) * x0) - (1 : Int)))) (h2 : (((-(2147483648 : Int)) ≤ x1) ∧ (x1 ≤ (2147483647 : Int)))) : (inr (x1 - (2 : Int))) := by omega
theorem q_3649 {x0 x1 x2 x3 x4 x5 x6 : Int} (h0 : ((0 : Int) ≤ x0)) (h1 : ((x1 = (512 : Int)) ∧ ((x2 = (512 : Int)) ∧ ((x3 = (256 : Int)) ∧ (x4 = (256 : Int)))))) (h2 : (((2 : Int) ≤ x5) ∧ (x5 ≤ (256 : Int)))) (h3 : (x6 = (((2 : Int) * x5) - (1 : Int)))) (h4 : (x0 ≤ (x6 - (2 : Int)))) (h5 : (((0 : Int) ≤ x2) ∧ (x2 ≤ (1000000 : Int)))) : (((0 : Int) ≤ x0) ∧ (x0 < x2)) := by omega
theorem q_3650 {x0 x1 x2 x3 x4 x5 x6 : Int} (h0 : ((0 : Int) ≤ x0)) (h1 : ((x1 = (512 : Int)) ∧ ((x2 = (512 : Int)) ∧ ((x3 = (256 : Int)) ∧ (x4 = (256 : Int)))))) (h2 : (((2 : Int) ≤ x5) ∧ (x5 ≤ (256 : Int)))) (h3 : (x6 = (((2 : Int) * x5) - (1 : Int)))) (h4 : (x0 ≤ (x6 - (2 : Int)))) (h5 : (((0 : Int) ≤ x1) ∧ (x1 ≤ (1000000 : Int)))) : (((0 : Int) ≤ x0) ∧ (x0 < x1)) := by omega
theorem q_3651 {x0 x1 : Int} (h0 : (x0 ≤ (x1 - (2 : Int)))) : ((x0 + (-(1 : Int))) ≤ (x1 - (2 : Int))) := by omega
theorem q_3652 {x0 x1 x2 x3 x4 x5 : Int} (h0 : ((0 : Int) ≤ x0)) (h1 : (x0 < x1)) (h2 : ((x2 = (512 : Int)) ∧ ((x3 = (512 : Int)) ∧ ((x4 = (256 : Int)) ∧ (x5 = (256 : Int)))))) (h3 : (((2 : Int) ≤ x1) ∧ (x1 ≤ (256 : Int)))) : (((0 : Int) ≤ x0) ∧ (x0 < x4)) := by omega
theorem q_3653 {x0 x1 x2 x3 x4 x5 : Int} (h0 : ((0 : Int) ≤ x0)) (h1 : (x0 < x1)) (h2 : ((x2 = (512 : Int)) ∧ ((x3 = (512 : Int)) ∧ ((x4 = (256 : Int)) ∧ (x5 = (256 : Int)))))) (h3 : (((2 : Int) ≤ x1) ∧ (x1 ≤ (256 : Int)))) (h4 : (((0 : Int) ≤ x2) ∧ (x2 ≤ (1000000 : Int)))) : (((0 : Int) ≤ x0) ∧ (x0 < x2)) := by omega
theorem q_3654 {x0 x1 x2 : Int} (h0 : (((x0 < x1) ∧ (x2 = x1)) ∨ ((¬ (x0 < x1)) ∧ (x2 = x0)))) (h1 : ((0 : Int) ≤ x0)) (h2 : (inr x1)) (h3 : (((-(2147483648 : Int)) ≤ x0) ∧ (x0 ≤ (2147483647 : Int)))) : (((-(2147483648 : Int)) ≤ x2) ∧ (x2 ≤ (2147483647 : Int))) := by omega
theorem q_3655 {x0 x1 x2 : Int} (h0 : (((x0 < x1) ∧ (x2 = x1)) ∨ ((¬ (x0 < x1)) ∧ (x2 = x0)))) (h1 : ((0 : Int) ≤ x0)) : ((0 : Int) ≤ x2) := by omega
theorem q_3656 : (((1 : Int) ≤ (0 : Int)) ∨ ((12 : Int) = (12 : Int))) := by omega
theorem q_3657 : ((0 : Int) ≤ (12 : Int)) := by omega
theorem q_3658 : (((12 : Int) ≤ (11 : Int)) ∨ ((0 : Int) ≤ (30 : Int))) := by omega
theorem q_3659 : (((0 : Int) ≤ (0 : Int)) ∨ ((0 : Int) ≤ (31 : Int))) := by omega
theorem q_3660 {x0 x1 : Int} (h0 : ((31 : Int) ≤ x0)) (h1 : ((x1 ≤ (11 : Int)) ∨ (x0 ≤ (30 : Int)))) (h2 : ((0 : Int) ≤ x1)) (h3 : (((1 : Int) ≤ x0) ∨ (x1 = (12 : Int)))) (h4 : (((-(2147483648 : Int)) ≤ x1) ∧ (x1 ≤ (2147483647 : Int)))) : (((0 : Int) ≤ x1) ∧ (x1 ≤ (11 : Int))) := by omega
theorem q_3661 {x0 : Int} (h0 : (x0 ≤ (11 : Int))) (h1 : ((0 : Int) ≤ x0)) : (((0 : Int) ≤ x0) ∧ (x0 ≤ (11 : Int))) := by omega
theorem q_3662 {x0 : Int} (h0 : (x0 < (31 : Int))) (h1 : ((0 : Int) ≤ x0)) : (((0 : Int) ≤ x0) ∧ (x0 ≤ (30 : Int))) := by omega
theorem q_3663 {x0 x1 x2 x3 x4 : Int} (h0 : ((x0 = (512 : Int)) ∧ ((x1 = (512 : Int)) ∧ ((x2 = (256 : Int)) ∧ ((x3 = (256 : Int)) ∧ (x4 = (256 : Int))))))) : ((x0 = (512 : Int)) ∧ ((x2 = (256 : Int)) ∧ (x4 = (256 : Int)))) := by omega
theorem q_3664 {x0 x1 x2 x3 x4 : Int} (h0 : ((x0 = (512 : Int)) ∧ ((x1 = (512 : Int)) ∧ ((x2 = (256 : Int)) ∧ ((x3 = (256 : Int)) ∧ (x4 = (256 : Int))))))) : ((x0 = (512 : Int)) ∧ (x1 = (512 : Int))) := by omega
theorem q_3665 {x0 x1 x2 x3 x4 : Int} (h0 : ((x0 = (512 : Int)) ∧ ((x1 = (512 : Int)) ∧ ((x2 = (256 : Int)) ∧ ((x3 = (256 : Int)) ∧ (x4 = (256 : Int))))))) : ((x0 = (512 : Int)) ∧ ((x1 = (512 : Int)) ∧ ((x2 = (256 : Int)) ∧ (x3 = (256 : Int))))) := by omega
theorem q_3666 {x0 x1 : Int} (h0 : ((0 : Int) ≤ x0)) : (((1 : Int) ≤ (x0 + (1 : Int))) ∨ (x1 = (12 : Int))) := by omega
theorem q_3667 {x0 : Int} (h0 : (x0 < (31 : Int))) : (((x0 + (1 : Int)) ≤ (0 : Int)) ∨ ((x0 + (1 : Int)) ≤ (31 : Int))) := by omega
theorem q_3668 {x0 : Int} (h0 : (x0 < (31 : Int))) (h1 : ((0 : Int) ≤ x0)) : (inr (x0 + (1 : Int))) := by omega
theorem q_3669 {x0 : Int} (h0 : (x0 < (31 : Int))) : ((0 : Int) < ((31 : Int) - x0)) := by omega
theorem q_3670 {x0 x1 x2 x3 : Int} (h0 : (x0 ≤ x1)) (h1 : (((0 : Int) ≤ x2) ∧ ((x2 ≤ x0) ∧ (x0 ≤ x3)))) (h2 : ((x1 ≤ x2) ∨ (x1 ≤ x0))) : (x1 = x0) := by omega
theorem q_3671 : (((0 : Int) ≤ (0 : Int)) ∧ ((0 : Int) ≤ (2048 : Int))) := by omega
theorem q_3672 {x0 x1 : Int} (h0 : (x0 ≤ x1)) (h1 : (((0 : Int) ≤ x1) ∧ (x1 ≤ (11 : Int)))) (h2 : ((1 : Int) ≤ x0)) : (((0 : Int) ≤ (x0 - (1 : Int))) ∧ ((x0 - (1 : Int)) ≤ (31 : Int))) := by omega
theorem q_3673 {x0 x1 : Int} (h0 : (x0 ≤ x1)) (h1 : (((0 : Int) ≤ x1) ∧ (x1 ≤ (11 : Int)))) (h2 : ((1 : Int) ≤ x0)) : (inr (x0 + (1 : Int))) := by omega
theorem q_3674 {x0 x1 x2 x3 : Int} (h0 : (x0 < (256 : Int))) (h1 : ((x1 = (256 : Int)) ∧ ((x2 = (256 : Int)) ∧ (x3 = (2048 : Int))))) (h2 : ((0 : Int) ≤ x0)) : (((0 : Int) ≤ x0) ∧ (x0 < x1)) := by omega
theorem q_3675 {x0 x1 : Int} (h0 : (x0 ≤ x1)) (h1 : (((0 : Int) ≤ x1) ∧ (x1 ≤ (11 : Int)))) (h2 : ((1 : Int) ≤ x0)) : (inr ((x1 + (1 : Int)) - x0)) := by omega
theorem q_3676 {x0 x1 x2 x3 : Int} (h0 : (x0 < (256 : Int))) (h1 : ((x1 = (256 : Int)) ∧ ((x2 = (256 : Int)) ∧ (x3 = (2048 : Int))))) (h2 : ((0 : Int) ≤ x0)) : (((0 : Int) ≤ x0) ∧ (x0 < x2)) := by omega
theorem q_3677 {x0 x1 : Int} (h0 : (x0 ≤ x1)) (h1 : (((1 : Int) ≤ x0) ∧ (x0 ≤ (255 : Int)))) (h2 : ((x1 ≤ (0 : Int)) ∨ (x1 ≤ x0))) : (x1 = x0) := by omega
theorem q_3678 {x0 : Int} : (((0 : Int) = (0 : Int)) ∨ (((0 : Int) ≤ x0) ∧ (x0 ≤ (11 : Int)))) := by omega
theorem q_3679 {x0 : Int} (h0 : (x0 < (11 : Int))) (h1 : (((0 : Int) ≤ x0) ∧ (x0 ≤ (30 : Int)))) : (((-(2147483648 : Int)) ≤ (x0 + (1 : Int))) ∧ ((x0 + (1 : Int)) ≤ (2147483647 : Int))) := by omega
theorem q_3680 {x0 : Int} (h0 : (x0 < (11 : Int))) (h1 : (((0 : Int) ≤ x0) ∧ (x0 ≤ (30 : Int)))) : (((0 : Int) ≤ (x0 + (1 : Int))) ∧ ((x0 + (1 : Int)) ≤ (31 : Int))) := by omega
theorem q_3681 {x0 : Int} : (((0 : Int) = (0 : Int)) ∨ (((0 : Int) ≤ (x0 + (1 : Int))) ∧ ((x0 + (1 : Int)) ≤ (11 : Int)))) := by omega
theorem q_3682 {x0 x1 x2 x3 x4 x5 : Int} (h0 : (((1 : Int) ≤ x0) ∧ (x0 ≤ (255 : Int)))) (h1 : (x1 = x0)) (h2 : (inr x2)) (h3 : (((0 : Int) ≤ x2) ∧ (x2 ≤ x1))) (h4 : (inr x3)) (h5 : ((((x4 - x5) ≠ (1 : Int)) ∧ (x3 = (0 : Int))) ∨ (((x4 - x5) = (1 : Int)) ∧ (x3 = (1 : Int))))) : (inr (x2 + x3)) := by omega
theorem q_3683 {x0 x1 x2 x3 x4 : Int} (h0 : ((x0 = (256 : Int)) ∧ ((x1 = (256 : Int)) ∧ ((x2 = (256 : Int)) ∧ (x3 = (2048 : Int)))))) (h1 : (((1 : Int) ≤ x4) ∧ (x4 ≤ (255 : Int)))) : (((0 : Int) ≤ x4) ∧ (x4 < x0)) := by omega
theorem q_3684 {x0 : Int} : (((0 : Int) ≤ (0 : Int)) ∨ ((0 : Int) ≤ (x0 + (1 : Int)))) := by omega
theorem q_3685 {x0 : Int} (h0 : (x0 < (11 : Int))) (h1 : (((0 : Int) ≤ x0) ∧ (x0 ≤ (30 : Int)))) : (((0 : Int) ≤ (x0 + (1 : Int))) ∧ ((x0 + (1 : Int)) ≤ (11 : Int))) := by omega
theorem q_3686 {x0 x1 x2 x3 : Int} (h0 : ((x0 = (256 : Int)) ∧ ((x1 = (256 : Int)) ∧ ((x2 = (256 : Int)) ∧ (x3 = (2048 : Int)))))) : ((x1 = (256 : Int)) ∧ ((x2 = (256 : Int)) ∧ (x3 = (2048 : Int)))) := by omega
theorem q_3687 {x0 : Int} (h0 : (x0 < (11 : Int))) (h1 : (((0 : Int) ≤ x0) ∧ (x0 ≤ (30 : Int)))) : (((1 : Int) = (0 : Int)) ∨ (((0 : Int) ≤ (x0 + (1 : Int))) ∧ ((x0 + (1 : Int)) ≤ (11 : Int)))) := by omega
theorem q_3688 {x0 x1 x2 x3 x4 x5 : Int} (h0 : (x0 ≤ x1)) (h1 : ((x2 = (256 : Int)) ∧ ((x3 = (256 : Int)) ∧ ((x4 = (256 : Int)) ∧ (x5 = (2048 : Int)))))) (h2 : (((1 : Int) ≤ x1) ∧ (x1 ≤ (255 : Int)))) (h3 : ((0 : Int) ≤ x0)) : (((0 : Int) ≤ x0) ∧ (x0 < x2)) := by omega
theorem q_3689 {x0 x1 : Int} (h0 : (x0 < (11 : Int))) (h1 : (((0 : Int) ≤ (((x0 + (1 : Int)) + (1 : Int)) - x1)) ∧ ((((x0 + (1 : Int)) + (1 : Int)) - x1) ≤ (x0 + (1 : Int))))) : (inr (((x0 + (1 : Int)) + (1 : Int)) - x1)) := by omega
theorem q_3690 {x0 x1 x2 x3 x4 x5 : Int} (h0 : (x0 ≤ x1)) (h1 : ((x2 = (256 : Int)) ∧ ((x3 = (256 : Int)) ∧ ((x4 = (256 : Int)) ∧ (x5 = (2048 : Int)))))) (h2 : (((1 : Int) ≤ x1) ∧ (x1 ≤ (255 : Int)))) (h3 : ((0 : Int) ≤ x0)) : (((0 : Int) ≤ x0) ∧ (x0 < x3)) := by omega
theorem q_3691 {x0 x1 : Int} (h0 : (x0 ≤ x1)) : (((x0 + (1 : Int)) ≤ (0 : Int)) ∨ ((x0 + (1 : Int)) ≤ (x1 + (1 : Int)))) := by omega
theorem q_3692 {x0 x1 : Int} (h0 : (x0 ≤ x1)) (h1 : (((1 : Int) ≤ x1) ∧ (x1 ≤ (255 : Int)))) (h2 : ((0 : Int) ≤ x0)) : (inr (x0 + (1 : Int))) := by omega
theorem q_3693 {x0 : Int} (h0 : (((0 : Int) ≤ x0) ∧ (x0 ≤ (30 : Int)))) : (((0 : Int) ≤ (0 : Int)) ∧ ((0 : Int) ≤ (x0 + (1 : Int)))) := by omega
theorem q_3694 {x0 x1 : Int} (h0 : ((x0 - x1) ≠ (1 : Int))) : ((((x0 - x1) ≠ (1 : Int)) ∧ ((0 : Int) = (0 : Int))) ∨ (((x0 - x1) = (1 : Int)) ∧ ((0 : Int) = (1 : Int)))) := by omega
theorem q_3695 {x0 x1 : Int} (h0 : ((x0 - x1) = (1 : Int))) : ((((x0 - x1) ≠ (1 : Int)) ∧ ((1 : Int) = (0 : Int))) ∨ (((x0 - x1) = (1 : Int)) ∧ ((1 : Int) = (1 : Int)))) := by omega
theorem q_3696 {x0 x1 x2 x3 x4 x5 : Int} (h0 : (x0 < x1)) (h1 : ((x2 = (256 : Int)) ∧ ((x3 = (256 : Int)) ∧ ((x4 = (256 : Int)) ∧ (x5 = (2048 : Int)))))) (h2 : (((1 : Int) ≤ x1) ∧ (x1 ≤ (255 : Int)))) (h3 : ((0 : Int) ≤ x0)) (h4 : (((0 : Int) ≤ x2) ∧ (x2 ≤ (1000000 : Int)))) : (((0 : Int) ≤ x0) ∧ (x0 < x2)) := by omega
theorem q_3697 {x0 x1 x2 : Int} (h0 : (x0 < x1)) (h1 : (((1 : Int) ≤ x1) ∧ (x1 ≤ (255 : Int)))) (h2 : (((0 : Int) ≤ x2) ∧ (x2 ≤ ((16384 : Int) * x0)))) : (inr (x0 + (1 : Int))) := by omega
theorem q_3698 {x0 x1 x2 : Int} (h0 : (x0 < x1)) (h1 : (((1 : Int) ≤ x1) ∧ (x1 ≤ (255 : Int)))) (h2 : (((0 : Int) ≤ x2) ∧ (x2 ≤ x0))) : (inr (x2 + (1 : Int))) := by omega
theorem q_3699 {x0 x1 x2 : Int} (h0 : (x0 ≤ (0 : Int))) : (((x0 ≤ (0 : Int)) ∧ ((0 : Int) = (0 : Int))) ∨ ((x0 > (0 : Int)) ∧ (((-(2147483648 : Int)) ≤ x1) ∧ ((x1 ≤ (2147483647 : Int)) ∧ ((0 : Int) = x2))))) := by omega
theorem q_3700 {x0 x1 x2 x3 x4 : Int} (h0 : ((0 : Int) < x0)) (h1 : (x1 = x0)) (h2 : (x1 = x2)) (h3 : (x3 = x4)) (h4 : (inr x2)) : (((x0 ≤ (0 : Int)) ∧ (x3 = (0 : Int))) ∨ ((x0 > (0 : Int)) ∧ (((-(2147483648 : Int)) ≤ x1) ∧ ((x1 ≤ (2147483647 : Int)) ∧ (x3 = x4))))) := by omega
theorem q_3701 {x0 x1 x2 x3 x4 x5 x6 x7 x8 : Int} (h0 : ((x0 = x1) ∧ ((x2 = x1) ∧ ((x3 = x1) ∧ ((x4 = x1) ∧ ((x5 = x1) ∧ ((x6 = x7) ∧ ((x8 = x7) ∧ (((1 : Int) ≤ x1) ∧ ((x1 ≤ (64 : Int)) ∧ ((x1 = (12 : Int)) ∧ (x7 = (64 : Int))))))))))))) : ((x0 = x1) ∧ ((x2 = x1) ∧ ((x3 = x1) ∧ ((x4 = x1) ∧ ((x5 = x1) ∧ ((x6 = x7) ∧ ((x8 = x7) ∧ (((1 : Int) ≤ x1) ∧ (x1 ≤ (64 : Int)))))))))) := by omega
theorem q_3702 {x0 x1 x2 x3 x4 x5 x6 x7 x8 x9 : Int} (h0 : ((x0 = x1) ∧ ((x2 = x1) ∧ ((x3 = x1) ∧ ((x4 = x1) ∧ ((x5 = x1) ∧ ((x6 = x7) ∧ ((x8 = x7) ∧ (((1 : Int) ≤ x1) ∧ ((x1 ≤ (64 : Int)) ∧ ((x1 = (12 : Int)) ∧ (x7 = (64 : Int))))))))))))) (h1 : (x9 = (64 : Int))) : (((5 : Int) ≤ (6 : Int)) ∧ (((6 : Int) ≤ (9 : Int)) ∧ (x9 ≤ x7))) := by omega
theorem q_3703 {x0 x1 x2 : Int} (h0 : (((0 : Int) ≤ x0) ∧ ((x0 ≤ (65536 : Int)) ∧ (((0 : Int) ≤ x1) ∧ ((x1 ≤ x2) ∧ ((x2 ≤ (65536 : Int)) ∧ (x0 ≤ x1))))))) : (((0 : Int) ≤ x0) ∧ ((x0 ≤ x1) ∧ ((x1 ≤ x2) ∧ (x2 ≤ (65536 : Int))))) := by omega
theorem q_3704 {x0 x1 x2 : Int} (h0 : ((0 : Int) ≤ x0)) (h1 : (((x0 = (-(1 : Int))) ∧ (x1 = x2)) ∨ (((5 : Int) ≤ x1) ∧ (x1 ≤ (6 : Int))))) (h2 : (((-(2147483648 : Int)) ≤ x1) ∧ (x1 ≤ (2147483647 : Int)))) : (((5 : Int) ≤ x1) ∧ (x1 ≤ (6 : Int))) := by omega
theorem q_3705 {x0 x1 x2 x3 : Int} {p0 : Prop} (h0 : ((0 : Int) ≤ x0)) (h1 : (((0 : Int) ≤ x1) ∧ ((x1 ≤ (65536 : Int)) ∧ (((0 : Int) ≤ x2) ∧ ((x2 ≤ x3) ∧ ((x3 ≤ (65536 : Int)) ∧ (x1 ≤ x2))))))) (h2 : ((x0 = (-(1 : Int))) ∨ ((x1 ≤ x0) ∧ (x0 ≤ x2)))) (h3 : ((x0 = (-(1 : Int))) ∨ p0)) : ((x1 ≤ x0) ∧ (x0 ≤ x2)) := by omega
theorem q_3706 {x0 x1 x2 x3 : Int} (h0 : (((x0 = (0 : Int)) ∧ (x1 = (0 : Int))) ∨ ((x0 = (1 : Int)) ∧ (((0 : Int) ≤ x1) ∧ (x1 < ((8 : Int) * (x2 - x3))))))) : ((-(100 : Int)) ≤ x1) := by omega
theorem q_3707 : (((0 : Int) ≤ (0 : Int)) ∨ ((0 : Int) ≤ (254 : Int))) := by omega
theorem q_3708 {x0 x1 x2 : Int} (h0 : (((0 : Int) ≤ x0) ∧ (x0 ≤ ((8 : Int) * (x1 - x2))))) (h1 : (((-(2147483648 : Int)) ≤ x0) ∧ (x0 ≤ (2147483647 : Int)))) : (inr x0) := by omega
theorem q_3709 {x0 x1 x2 : Int} (h0 : (((0 : Int) ≤ x0) ∧ (x0 ≤ ((8 : Int) * (x1 - x2))))) : ((-(100 : Int)) ≤ x0) := by omega
theorem q_3710 {x0 x1 x2 x3 x4 x5 : Int} (h0 : (x0 ≤ x1)) (h1 : (((0 : Int) ≤ x1) ∧ (x1 ≤ ((8 : Int) * (x2 - x3))))) (h2 : (((0 : Int) ≤ x0) ∧ (x0 ≤ x4))) (h3 : (x5 = (x1 - x0))) : (((0 : Int) ≤ x5) ∧ (x5 ≤ ((8 : Int) * (x2 - x3)))) := by omega
theorem q_3711 {x0 : Int} (h0 : (x0 < (254 : Int))) : (((x0 + (1 : Int)) ≤ (0 : Int)) ∨ ((x0 + (1 : Int)) ≤ (254 : Int))) := by omega
theorem q_3712 {x0 : Int} (h0 : (x0 < (254 : Int))) (h1 : ((0 : Int) ≤ x0)) : (inr (x0 + (1 : Int))) := by omega
theorem q_3713 {x0 : Int} : (((254 : Int) - (x0 + (1 : Int))) < ((254 : Int) - x0)) := by omega
theorem q_3714 {x0 : Int} (h0 : (x0 < (254 : Int))) : ((0 : Int) < ((254 : Int) - x0)) := by omega
theorem q_3715 {x0 : Int} (h0 : (x0 < (254 : Int))) (h1 : ((0 : Int) ≤ x0)) : (((0 : Int) ≤ (x0 + (2 : Int))) ∧ ((x0 + (2 : Int)) ≤ (255 : Int))) := by omega
theorem q_3716 {x0 : Int} (h0 : (x0 < (254 : Int))) (h1 : ((0 : Int) ≤ x0)) : (inr (x0 + (2 : Int))) := by omega
theorem q_3717 {x0 x1 x2 : Int} (h0 : (x0 < x1)) (h1 : (((0 : Int) ≤ x0) ∧ ((x0 ≤ (65536 : Int)) ∧ (((0 : Int) ≤ x1) ∧ ((x1 ≤ x2) ∧ (x2 ≤ (65536 : Int))))))) : (((0 : Int) ≤ x0) ∧ (x0 < x2)) := by omega
theorem q_3718 {x0 x1 x2 x3 x4 : Int} (h0 : (((0 : Int) ≤ x0) ∧ ((x0 ≤ (65536 : Int)) ∧ (((0 : Int) ≤ x1) ∧ ((x1 ≤ x2) ∧ (x2 ≤ (65536 : Int))))))) (h1 : (inr x3)) (h2 : (((((x4 % (256 : Int)) - (127 : Int)) ≤ (0 : Int)) ∧ (x3 = (x4 % (256 : Int)))) ∨ ((((x4 % (256 : Int)) - (127 : Int)) > (0 : Int)) ∧ (x3 = ((((x4 % (256 : Int)) - (127 : Int)) + (1 : Int)) / (2 : Int)))))) : (inr ((x0 + (1 : Int)) + x3)) := by omega
theorem q_3719 {x0 : Int} : (inr ((x0 % (256 : Int)) - (127 : Int))) := by omega
theorem q_3720 {x0 : Int} : (((0 : Int) ≤ (0 : Int)) ∨ ((0 : Int) ≤ ((x0 % (256 : Int)) - (127 : Int)))) := by omega
theorem q_3721 {x0 : Int} (h0 : ((0 : Int) < ((x0 % (256 : Int)) - (127 : Int)))) : (inr ((x0 % (256 : Int)) - (127 : Int))) := by omega
theorem q_3722 {x0 x1 : Int} (h0 : ((0 : Int) < ((x0 % (256 : Int)) - (127 : Int)))) (h1 : (((x0 % (256 : Int)) - (127 : Int)) ≤ x1)) (h2 : ((x1 ≤ (0 : Int)) ∨ (x1 ≤ ((x0 % (256 : Int)) - (127 : Int))))) : (x1 = ((x0 % (256 : Int)) - (127 : Int))) := by omega
theorem q_3723 {x0 : Int} (h0 : ((0 : Int) < ((x0 % (256 : Int)) - (127 : Int)))) : (((1 : Int) ≤ ((x0 % (256 : Int)) - (127 : Int))) ∧ (((x0 % (256 : Int)) - (127 : Int)) ≤ (255 : Int))) := by omega
theorem q_3724 {x0 : Int} : (((-(1 : Int)) = (-(1 : Int))) ∨ (((0 : Int) ≤ x0) ∧ (x0 ≤ (11 : Int)))) := by omega
theorem q_3725 {x0 x1 x2 x3 : Int} (h0 : (((x0 + (1 : Int)) + x1) ≤ x2)) (h1 : (((0 : Int) ≤ x0) ∧ ((x0 ≤ (65536 : Int)) ∧ (((0 : Int) ≤ x2) ∧ ((x2 ≤ x3) ∧ (x3 ≤ (65536 : Int))))))) (h2 : (inr x1)) : (inr ((x0 + (1 : Int)) + x1)) := by omega
theorem q_3726 {x0 x1 x2 x3 x4 x5 : Int} (h0 : (x0 < ((x1 % (256 : Int)) - (127 : Int)))) (h1 : ((x2 = (256 : Int)) ∧ ((x3 = (256 : Int)) ∧ ((x4 = (256 : Int)) ∧ (x5 = (2048 : Int)))))) (h2 : ((0 : Int) ≤ x0)) (h3 : (((0 : Int) ≤ x2) ∧ (x2 ≤ (1000000 : Int)))) : (((0 : Int) ≤ x0) ∧ (x0 < x2)) := by omega
theorem q_3727 {x0 x1 : Int} (h0 : (x0 < ((x1 % (256 : Int)) - (127 : Int)))) : (((x0 + (1 : Int)) ≤ (0 : Int)) ∨ ((x0 + (1 : Int)) ≤ ((x1 % (256 : Int)) - (127 : Int)))) := by omega
theorem q_3728 {x0 x1 : Int} (h0 : (x0 < ((x1 % (256 : Int)) - (127 : Int)))) (h1 : ((0 : Int) ≤ x0)) : (inr (x0 + (1 : Int))) := by omega
theorem q_3729 {x0 x1 : Int} : ((((x0 % (256 : Int)) - (127 : Int)) - (x1 + (1 : Int))) < (((x0 % (256 : Int)) - (127 : Int)) - x1)) := by omega
theorem q_3730 {x0 x1 : Int} (h0 : (x0 < ((x1 % (256 : Int)) - (127 : Int)))) : ((0 : Int) < (((x1 % (256 : Int)) - (127 : Int)) - x0)) := by omega
theorem q_3731 {x0 x1 x2 x3 : Int} (h0 : ((x0 = (256 : Int)) ∧ ((x1 = (256 : Int)) ∧ ((x2 = (256 : Int)) ∧ (x3 = (2048 : Int)))))) : (x0 = (256 : Int)) := by omega
theorem q_3732 {x0 x1 x2 x3 x4 : Int} (h0 : (x0 < x1)) (h1 : (((x0 + (1 : Int)) + x2) ≤ x1)) (h2 : (((0 : Int) ≤ x0) ∧ ((x0 ≤ (65536 : Int)) ∧ (((0 : Int) ≤ x1) ∧ ((x1 ≤ x3) ∧ (x3 ≤ (65536 : Int))))))) (h3 : (((((x4 % (256 : Int)) - (127 : Int)) ≤ (0 : Int)) ∧ (x2 = (x4 % (256 : Int)))) ∨ ((((x4 % (256 : Int)) - (127 : Int)) > (0 : Int)) ∧ (x2 = ((((x4 % (256 : Int)) - (127 : Int)) + (1 : Int)) / (2 : Int)))))) : (((0 : Int) ≤ (x0 + (1 : Int))) ∧ (((x0 + (1 : Int)) ≤ (65536 : Int)) ∧ (((0 : Int) ≤ ((x0 + (1 : Int)) + x2)) ∧ ((((x0 + (1 : Int)) + x2) ≤ x3) ∧ ((x3 ≤ (65536 : Int)) ∧ ((x0 + (1 : Int)) ≤ ((x0 + (1 : Int)) + x2))))))) := by omega
theorem q_3733 {x0 x1 x2 : Int} (h0 : (((0 : Int) ≤ x0) ∧ ((x0 ≤ (65536 : Int)) ∧ (((0 : Int) ≤ x1) ∧ ((x1 ≤ x2) ∧ (x2 ≤ (65536 : Int))))))) : (inr (x0 + (1 : Int))) := by omega
theorem q_3734 {x0 : Int} (h0 : ((0 : Int) < x0)) (h1 : (((0 : Int) ≤ x0) ∧ (x0 ≤ (255 : Int)))) : (((1 : Int) ≤ x0) ∧ (x0 ≤ (255 : Int))) := by omega
theorem q_3735 {x0 : Int} (h0 : (((x0 % (256 : Int)) - (127 : Int)) ≤ (0 : Int))) : (((((x0 % (256 : Int)) - (127 : Int)) ≤ (0 : Int)) ∧ ((x0 % (256 : Int)) = (x0 % (256 : Int)))) ∨ ((((x0 % (256 : Int)) - (127 : Int)) > (0 : Int)) ∧ ((x0 % (256 : Int)) = ((((x0 % (256 : Int)) - (127 : Int)) + (1 : Int)) / (2 : Int))))) := by omega
theorem q_3736 {x0 : Int} (h0 : (((x0 % (256 : Int)) - (127 : Int)) ≤ (0 : Int))) : (inr (x0 % (256 : Int))) := by omega
theorem q_3737 {x0 : Int} (h0 : ((0 : Int) < ((x0 % (256 : Int)) - (127 : Int)))) : ((inr (((x0 % (256 : Int)) - (127 : Int)) + (1 : Int))) ∧ ((0 : Int) ≤ (((x0 % (256 : Int)) - (127 : Int)) + (1 : Int)))) := by omega
theorem q_3738 {x0 : Int} (h0 : ((0 : Int) < ((x0 % (256 : Int)) - (127 : Int)))) : (((((x0 % (256 : Int)) - (127 : Int)) ≤ (0 : Int)) ∧ (((((x0 % (256 : Int)) - (127 : Int)) + (1 : Int)) / (2 : Int)) = (x0 % (256 : Int)))) ∨ ((((x0 % (256 : Int)) - (127 : Int)) > (0 : Int)) ∧ (((((x0 % (256 : Int)) - (127 : Int)) + (1 : Int)) / (2 : Int)) = ((((x0 % (256 : Int)) - (127 : Int)) + (1 : Int)) / (2 : Int))))) := by omega
theorem q_3739 {x0 : Int} (h0 : ((0 : Int) < ((x0 % (256 : Int)) - (127 : Int)))) : (inr ((((x0 % (256 : Int)) - (127 : Int)) + (1 : Int)) / (2 : Int))) := by omega
theorem q_3740 {x0 x1 x2 : Int} (h0 : (((0 : Int) ≤ x0) ∧ ((x0 ≤ (65536 : Int)) ∧ (((0 : Int) ≤ x1) ∧ ((x1 ≤ x2) ∧ ((x2 ≤ (65536 : Int)) ∧ (x0 ≤ (200000 : Int)))))))) : (((0 : Int) ≤ x0) ∧ ((x1 ≤ x2) ∧ ((x2 ≤ (65536 : Int)) ∧ (((0 : Int) ≤ x1) ∧ (x0 ≤ (200000 : Int)))))) := by omega
theorem q_3741 {x0 x1 x2 : Int} (h0 : (((-(11 : Int)) ≤ x0) ∧ (x0 ≤ ((8 : Int) * (x1 - x2))))) (h1 : (((-(2147483648 : Int)) ≤ x0) ∧ (x0 ≤ (2147483647 : Int)))) : (inr x0) := by omega
theorem q_3742 {x0 x1 x2 : Int} (h0 : (x0 ≤ x1)) : ((x1 ≥ x0) ∨ ((x1 < x0) ∧ (x2 < (0 : Int)))) := by omega
theorem q_3743 {x0 x1 x2 : Int} (h0 : (x0 < x1)) (h1 : (x2 < (0 : Int))) : ((x0 ≥ x1) ∨ ((x0 < x1) ∧ (x2 < (0 : Int)))) := by omega
theorem q_3744 {x0 : Int} (h0 : ((0 : Int) ≤ x0)) : ((-(100 : Int)) ≤ x0) := by omega
theorem q_3745 {x0 x1 x2 x3 x4 : Int} (h0 : ((0 : Int) ≤ x0)) (h1 : (((0 : Int) ≤ x1) ∧ ((x1 ≤ (65536 : Int)) ∧ (((0 : Int) ≤ x2) ∧ ((x2 ≤ x3) ∧ ((x3 ≤ (65536 : Int)) ∧ (x1 ≤ (200000 : Int)))))))) (h2 : (((-(11 : Int)) ≤ x0) ∧ (x0 ≤ ((8 : Int) * (x3 - x4))))) (h3 : (x4 = x1)) : (((0 : Int) ≤ x4) ∧ ((x4 ≤ (65536 : Int)) ∧ ((x0 ≤ ((8 : Int) * (x3 - x4))) ∧ (x3 ≤ (65536 : Int))))) := by omega
theorem q_3746 {x0 x1 x2 x3 : Int} (h0 : (x0 = (2048 : Int))) (h1 : (x1 = (2048 : Int))) (h2 : (x2 ≤ x1)) (h3 : (((0 : Int) ≤ x3) ∧ (x3 < x2))) : (((0 : Int) ≤ x3) ∧ (x3 < x0)) := by omega
theorem q_3747 {x0 x1 : Int} (h0 : (x0 = x1)) : (((8 : Int) * x0) = ((8 : Int) * x1)) := by omega
theorem q_3748 {x0 : Int} : (((0 : Int) ≤ (0 : Int)) ∧ ((0 : Int) ≤ ((11 : Int) * (x0 - x0)))) := by omega
theorem q_3749 {x0 x1 x2 : Int} (h0 : (inr x0)) (h1 : (((0 : Int) ≤ x0) ∧ (x0 ≤ ((11 : Int) * (x1 - x2))))) : ((inr x0) ∧ ((0 : Int) ≤ x0)) := by omega
theorem q_3750 {x0 x1 x2 : Int} (h0 : (inr x0)) (h1 : (((0 : Int) ≤ x0) ∧ (x0 ≤ ((11 : Int) * (x1 - x2))))) : (inr ((x0 / (8 : Int)) + (1 : Int))) := by omega
theorem q_3751 {x0 x1 x2 x3 x4 : Int} (h0 : (x0 < x1)) (h1 : (((0 : Int) ≤ x2) ∧ ((x2 ≤ x1) ∧ ((x1 ≤ x3) ∧ (x3 ≤ (65536 : Int)))))) (h2 : (((0 : Int) ≤ x4) ∧ (x4 ≤ ((11 : Int) * (x0 - x2))))) : (((0 : Int) ≤ x0) ∧ (x0 < x3)) := by omega
theorem q_3752 {x0 x1 : Int} (h0 : (x0 = (256 : Int))) : (((0 : Int) ≤ (x1 % (256 : Int))) ∧ ((x1 % (256 : Int)) < x0)) := by omega
theorem q_3753 {x0 x1 x2 : Int} (h0 : (((0 : Int) ≤ x0) ∧ (x0 ≤ ((11 : Int) * (x1 - x2))))) : (x2 ≤ (x1 + (1 : Int))) := by omega
theorem q_3754 : (((0 : Int) ≤ (0 : Int)) ∧ ((0 : Int) ≤ (100000 : Int))) := by omega
theorem q_3755 {x0 x1 x2 : Int} (h0 : (((0 : Int) ≤ x0) ∧ ((x0 ≤ x1) ∧ ((x1 ≤ x2) ∧ (x2 ≤ (65536 : Int)))))) : (inr (((2 : Int) * (x1 - x0)) + (2 : Int))) := by omega
theorem q_3756 {x0 x1 x2 x3 x4 x5 x6 x7 : Int} (h0 : ((x0 = (0 : Int)) ∧ ((x1 = (0 : Int)) ∧ ((x2 = (0 : Int)) ∧ (((x3 + ((2 : Int) * (x4 - x5))) + (2 : Int)) ≤ (65536 : Int)))))) (h1 : (((0 : Int) ≤ x3) ∧ ((x3 ≤ x6) ∧ (x6 ≤ (65536 : Int))))) (h2 : (((x7 = (1 : Int)) ∧ (((0 : Int) ≤ (((2 : Int) * (x4 - x5)) + (2 : Int))) ∧ ((x3 + (((2 : Int) * (x4 - x5)) + (2 : Int))) ≤ x6))) ∨ ((x7 = (0 : Int)) ∧ (((((2 : Int) * (x4 - x5)) + (2 : Int)) < (0 : Int)) ∨ ((65536 : Int) < (x3 + (((2 : Int) * (x4 - x5)) + (2 : Int)))))))) (h3 : (((0 : Int) ≤ x6) ∧ (x6 ≤ (1000000 : Int)))) : (((x3 + ((2 : Int) * (x4 - x5))) + (2 : Int)) ≤ x6) := by omega
theorem q_3757 {x0 x1 x2 x3 x4 x5 : Int} (h0 : ((x0 = (0 : Int)) ∧ ((x1 = (0 : Int)) ∧ ((x2 = (0 : Int)) ∧ (((x3 + ((2 : Int) * (x4 - x5))) + (2 : Int)) ≤ (65536 : Int)))))) : ((((8 : Int) * x3) + x0) ≤ (((8 : Int) * x3) + ((11 : Int) * ((x4 - (1 : Int)) - (x4 - (1 : Int)))))) := by omega
theorem q_3758 {x0 x1 x2 : Int} (h0 : (((0 : Int) ≤ x0) ∧ ((x0 ≤ x1) ∧ ((x1 ≤ x2) ∧ (x2 ≤ (65536 : Int)))))) : ((x0 - (1 : Int)) ≤ (x1 - (1 : Int))) := by omega
theorem q_3759 {x0 x1 x2 : Int} (h0 : (((0 : Int) ≤ x0) ∧ ((x0 ≤ x1) ∧ ((x1 ≤ x2) ∧ (x2 ≤ (65536 : Int)))))) : (inr (x1 - (1 : Int))) := by omega
theorem q_3760 {x0 x1 x2 x3 x4 : Int} (h0 : (x0 ≤ x1)) (h1 : (x1 ≤ x2)) (h2 : ((x3 = (0 : Int)) ∧ (x2 ≤ x4))) : (x0 ≤ x4) := by omega
theorem q_3761 {x0 x1 x2 x3 : Int} (h0 : (x0 ≤ x1)) (h1 : (((0 : Int) ≤ x0) ∧ ((x0 ≤ x2) ∧ ((x2 ≤ x3) ∧ (x3 ≤ (65536 : Int)))))) (h2 : (x1 ≤ (x2 - (1 : Int)))) : (((0 : Int) ≤ x1) ∧ (x1 < x3)) := by omega
theorem q_3762 {x0 x1 x2 : Int} (h0 : ((x0 = (256 : Int)) ∧ (x1 = (256 : Int)))) : (((0 : Int) ≤ (x2 % (256 : Int))) ∧ ((x2 % (256 : Int)) < x1)) := by omega
theorem q_3763 {x0 x1 x2 : Int} (h0 : ((x0 = (256 : Int)) ∧ (x1 = (256 : Int)))) : (((0 : Int) ≤ (x2 % (256 : Int))) ∧ ((x2 % (256 : Int)) < x0)) := by omega
theorem q_3764 {x0 x1 x2 x3 : Int} (h0 : (x0 ≤ x1)) (h1 : (((0 : Int) ≤ x0) ∧ ((x0 ≤ x2) ∧ ((x2 ≤ x3) ∧ (x3 ≤ (65536 : Int)))))) (h2 : (inr x1)) : (inr (x1 + (-(1 : Int)))) := by omega
theorem q_3765 {x0 : Int} (h0 : (((0 : Int) ≤ x0) ∧ (x0 ≤ (128 : Int)))) : (inr ((1 : Int) + x0)) := by omega
theorem q_3766 {x0 : Int} (h0 : (((0 : Int) ≤ x0) ∧ (x0 ≤ (128 : Int)))) : (inr ((127 : Int) + x0)) := by omega
theorem q_3767 {x0 x1 x2 x3 : Int} (h0 : (((0 : Int) ≤ x0) ∧ (x0 ≤ (128 : Int)))) (h1 : (((0 : Int) ≤ x1) ∧ ((x1 ≤ x2) ∧ (x2 ≤ (65536 : Int))))) (h2 : (((x3 = (1 : Int)) ∧ (((0 : Int) ≤ ((1 : Int) + x0)) ∧ ((x1 + ((1 : Int) + x0)) ≤ x2))) ∨ ((x3 = (0 : Int)) ∧ ((((1 : Int) + x0) < (0 : Int)) ∨ ((65536 : Int) < (x1 + ((1 : Int) + x0))))))) (h3 : (((0 : Int) ≤ x2) ∧ (x2 ≤ (1000000 : Int)))) : (((1 : Int) + x0) ≤ x2) := by omega
theorem q_3768 {x0 : Int} (h0 : (((0 : Int) ≤ x0) ∧ (x0 ≤ (128 : Int)))) : (((0 : Int) ≤ (0 : Int)) ∧ ((0 : Int) ≤ (x0 + (1 : Int)))) := by omega
theorem q_3769 {x0 x1 x2 : Int} (h0 : (x0 < x1)) (h1 : (((0 : Int) ≤ x1) ∧ (x1 ≤ (128 : Int)))) (h2 : (x2 = (256 : Int))) (h3 : (((0 : Int) ≤ x0) ∧ (x0 ≤ (x1 + (1 : Int))))) (h4 : (((0 : Int) ≤ x2) ∧ (x2 ≤ (1000000 : Int)))) : (((0 : Int) ≤ x0) ∧ (x0 < x2)) := by omega
theorem q_3770 {x0 x1 : Int} (h0 : (x0 < x1)) (h1 : (((0 : Int) ≤ x0) ∧ (x0 ≤ (x1 + (1 : Int))))) : (((0 : Int) ≤ (x0 + (2 : Int))) ∧ ((x0 + (2 : Int)) ≤ (x1 + (1 : Int)))) := by omega
theorem q_3771 {x0 x1 : Int} (h0 : (x0 < x1)) (h1 : (((0 : Int) ≤ x1) ∧ (x1 ≤ (128 : Int)))) (h2 : (((0 : Int) ≤ x0) ∧ (x0 ≤ (x1 + (1 : Int))))) : (inr (x0 + (2 : Int))) := by omega
theorem q_3772 {x0 x1 : Int} : ((x0 - (x1 + (2 : Int))) < (x0 - x1)) := by omega
theorem q_3773 {x0 x1 : Int} (h0 : (x0 < x1)) (h1 : (((0 : Int) ≤ x1) ∧ (x1 ≤ (128 : Int)))) (h2 : (((0 : Int) ≤ x0) ∧ (x0 ≤ (x1 + (1 : Int))))) : (inr (x0 + (1 : Int))) := by omega
theorem q_3774 : (((0 : Int) ≤ (0 : Int)) ∧ ((0 : Int) ≤ (15 : Int))) := by omega
theorem q_3775 {x0 x1 x2 : Int} (h0 : ((x0 + (1 : Int)) < x1)) (h1 : (((0 : Int) ≤ x1) ∧ (x1 ≤ (128 : Int)))) (h2 : (x2 = (256 : Int))) (h3 : (((0 : Int) ≤ x0) ∧ (x0 ≤ (x1 + (1 : Int))))) (h4 : (((0 : Int) ≤ x2) ∧ (x2 ≤ (1000000 : Int)))) : (((0 : Int) ≤ (x0 + (1 : Int))) ∧ ((x0 + (1 : Int)) < x2)) := by omega
theorem q_3776 {x0 x1 x2 x3 x4 : Int} (h0 : (((0 : Int) ≤ x0) ∧ ((x0 ≤ x1) ∧ (x1 ≤ (65536 : Int))))) (h1 : ((x2 = (0 : Int)) ∧ ((x3 = (0 : Int)) ∧ (x4 = (0 : Int))))) (h2 : (((0 : Int) ≤ x1) ∧ (x1 ≤ (1000000 : Int)))) : (((0 : Int) ≤ x2) ∧ ((x2 ≤ x1) ∧ (x1 ≤ (65536 : Int)))) := by omega
theorem q_3777 {x0 : Int} (h0 : (((2 : Int) ≤ x0) ∧ (x0 ≤ (255 : Int)))) : (inr ((128 : Int) + x0)) := by omega
theorem q_3778 {x0 x1 x2 x3 x4 x5 x6 x7 x8 x9 x10 : Int} (h0 : ((x0 = x1) ∧ ((x2 = x1) ∧ ((x3 = x1) ∧ ((x4 = x1) ∧ ((x5 = x1) ∧ ((x6 = x7) ∧ ((x8 = x7) ∧ (((1 : Int) ≤ x1) ∧ ((x1 ≤ (64 : Int)) ∧ ((x1 = (12 : Int)) ∧ (x7 = (64 : Int))))))))))))) (h1 : ((x9 = (256 : Int)) ∧ (x10 = (12 : Int)))) : ((x1 ≤ x10) ∧ (x0 = x1)) := by omega
theorem q_3779 {x0 x1 x2 x3 x4 x5 x6 x7 x8 x9 x10 : Int} (h0 : ((x0 = x1) ∧ ((x2 = x1) ∧ ((x3 = x1) ∧ ((x4 = x1) ∧ ((x5 = x1) ∧ ((x6 = x7) ∧ ((x8 = x7) ∧ (((1 : Int) ≤ x1) ∧ ((x1 ≤ (64 : Int)) ∧ ((x1 = (12 : Int)) ∧ (x7 = (64 : Int))))))))))))) (h1 : (x9 = (64 : Int))) (h2 : (x10 ≤ x9)) : ((x0 = x1) ∧ ((x2 = x1) ∧ ((x3 = x1) ∧ ((x4 = x1) ∧ ((x5 = x1) ∧ ((x6 = x7) ∧ ((x8 = x7) ∧ (x10 ≤ x7)))))))) := by omega
theorem q_3780 {x0 x1 x2 : Int} (h0 : ((x0 = (0 : Int)) ∧ ((x1 = (0 : Int)) ∧ (x2 = (0 : Int))))) : (((0 : Int) ≤ x1) ∧ (x1 ≤ (7 : Int))) := by omega
theorem q_3781 {x0 x1 x2 x3 x4 x5 x6 x7 x8 : Int} (h0 : ((x0 = x1) ∧ ((x2 = x1) ∧ ((x3 = x1) ∧ ((x4 = x1) ∧ ((x5 = x1) ∧ ((x6 = x7) ∧ ((x8 = x7) ∧ (((1 : Int) ≤ x1) ∧ ((x1 ≤ (64 : Int)) ∧ ((x1 = (12 : Int)) ∧ (x7 = (64 : Int))))))))))))) : (x0 = x1) := by omega
theorem q_3782 {x0 x1 : Int} (h0 : (((5 : Int) ≤ x0) ∧ (x0 ≤ (6 : Int)))) (h1 : (x1 = x0)) : ((5 : Int) ≤ x1) := by omega
theorem q_3783 {x0 x1 x2 : Int} (h0 : (((2 : Int) ≤ x0) ∧ (x0 ≤ (255 : Int)))) (h1 : ((x1 = (256 : Int)) ∧ (x2 = (12 : Int)))) (h2 : (((0 : Int) ≤ x1) ∧ (x1 ≤ (1000000 : Int)))) : (((0 : Int) ≤ (x0 - (1 : Int))) ∧ ((x0 - (1 : Int)) < x1)) := by omega
theorem q_3784 {x0 x1 x2 : Int} (h0 : (((2 : Int) ≤ x0) ∧ (x0 ≤ (255 : Int)))) (h1 : ((x1 = (256 : Int)) ∧ (x2 = (12 : Int)))) (h2 : (((0 : Int) ≤ x1) ∧ (x1 ≤ (1000000 : Int)))) : (((0 : Int) ≤ (x0 - (2 : Int))) ∧ ((x0 - (2 : Int)) < x1)) := by omega
theorem q_3785 {x0 : Int} (h0 : (((2 : Int) ≤ x0) ∧ (x0 ≤ (255 : Int)))) : ((-(1 : Int)) ≤ (x0 - (3 : Int))) := by omega
theorem q_3786 {x0 x1 x2 x3 : Int} (h0 : (((2 : Int) ≤ x0) ∧ (x0 ≤ (255 : Int)))) (h1 : (((0 : Int) ≤ x1) ∧ ((x1 ≤ x2) ∧ (x2 ≤ (65536 : Int))))) (h2 : (((x3 = (1 : Int)) ∧ (((0 : Int) ≤ ((128 : Int) + x0)) ∧ ((x1 + ((128 : Int) + x0)) ≤ x2))) ∨ ((x3 = (0 : Int)) ∧ ((((128 : Int) + x0) < (0 : Int)) ∨ ((65536 : Int) < (x1 + ((128 : Int) + x0))))))) (h3 : (((0 : Int) ≤ x2) ∧ (x2 ≤ (1000000 : Int)))) : (((128 : Int) + x0) ≤ x2) := by omega
theorem q_3787 {x0 x1 x2 : Int} (h0 : (x0 ≤ (100 : Int))) (h1 : (x1 = (0 : Int))) : ((((8 : Int) * x0) + x1) ≤ ((808 : Int) + ((6 : Int) * ((x2 - (3 : Int)) - (x2 - (3 : Int)))))) := by omega
theorem q_3788 {x0 x1 : Int} (h0 : (x0 = (1 : Int))) (h1 : (x1 = (0 : Int))) : (((0 : Int) ≤ x1) ∧ (x1 < x0)) := by omega
theorem q_3789 {x0 : Int} (h0 : (x0 = (0 : Int))) : (((0 : Int) ≤ x0) ∧ (x0 ≤ (7 : Int))) := by omega
theorem q_3790 {x0 : Int} : (((x0 - (3 : Int)) ≤ (x0 - (3 : Int))) ∨ ((-(1 : Int)) ≤ (x0 - (3 : Int)))) := by omega
theorem q_3791 {x0 : Int} : ((x0 - (3 : Int)) ≤ (x0 - (3 : Int))) := by omega
theorem q_3792 {x0 : Int} (h0 : (((2 : Int) ≤ x0) ∧ (x0 ≤ (255 : Int)))) : (inr (x0 - (3 : Int))) := by omega
theorem q_3793 {x0 x1 x2 x3 : Int} (h0 : ((0 : Int) ≤ x0)) (h1 : (((2 : Int) ≤ x1) ∧ (x1 ≤ (255 : Int)))) (h2 : ((x2 = (256 : Int)) ∧ (x3 = (12 : Int)))) (h3 : (x0 ≤ (x1 - (3 : Int)))) (h4 : (((0 : Int) ≤ x2) ∧ (x2 ≤ (1000000 : Int)))) : (((0 : Int) ≤ x0) ∧ (x0 < x2)) := by omega
theorem q_3794 {x0 x1 x2 : Int} (h0 : (((5 : Int) ≤ x0) ∧ (x0 ≤ (6 : Int)))) (h1 : (x1 = x0)) (h2 : (((0 : Int) ≤ x2) ∧ (x2 ≤ x1))) : (((0 : Int) ≤ x2) ∧ (x2 ≤ (31 : Int))) := by omega
theorem q_3795 {x0 x1 : Int} (h0 : ((0 : Int) ≤ x0)) : (((x1 - (3 : Int)) ≤ (x0 + (-(1 : Int)))) ∨ ((-(1 : Int)) ≤ (x0 + (-(1 : Int))))) := by omega
theorem q_3796 {x0 x1 : Int} (h0 : (x0 ≤ (x1 - (3 : Int)))) : ((x0 + (-(1 : Int))) ≤ (x1 - (3 : Int))) := by omega
theorem q_3797 : ((0 : Int) ≤ (255 : Int)) := by omega
theorem q_3798 : (((255 : Int) ≤ (255 : Int)) ∨ ((0 : Int) ≤ (255 : Int))) := by omega
theorem q_3799 : ((255 : Int) ≤ (255 : Int)) := by omega
theorem q_3800 {x0 : Int} (h0 : (x0 ≤ (255 : Int))) (h1 : ((0 : Int) ≤ x0)) : (((0 : Int) ≤ x0) ∧ (x0 ≤ (255 : Int))) := by omega
theorem q_3801 {x0 x1 : Int} (h0 : (x0 ≤ x1)) (h1 : (((0 : Int) ≤ x0) ∧ (x0 ≤ (255 : Int)))) (h2 : ((x1 ≤ (0 : Int)) ∨ (x1 ≤ x0))) : (x1 = x0) := by omega
theorem q_3802 {x0 x1 x2 x3 : Int} (h0 : ((x0 = (0 : Int)) ∧ ((x1 = (0 : Int)) ∧ ((x2 = (0 : Int)) ∧ (x3 = (0 : Int)))))) : ((x1 = (0 : Int)) ∧ ((x2 = (0 : Int)) ∧ (x3 = (0 : Int)))) := by omega
theorem q_3803 {x0 x1 x2 x3 x4 : Int} (h0 : ((x0 = (0 : Int)) ∧ ((x1 = (0 : Int)) ∧ ((x2 = (0 : Int)) ∧ (x3 = (0 : Int)))))) (h1 : (x4 = (0 : Int))) : ((x1 = (0 : Int)) ∧ ((x2 = (0 : Int)) ∧ (x4 = (0 : Int)))) := by omega
theorem q_3804 {x0 x1 x2 x3 x4 x5 : Int} (h0 : ((x0 = (0 : Int)) ∧ ((x1 = (0 : Int)) ∧ ((x2 = (0 : Int)) ∧ (x3 = (0 : Int)))))) (h1 : (((0 : Int) ≤ x4) ∧ ((x4 ≤ x5) ∧ (x5 ≤ (65536 : Int))))) : (x0 ≤ x4) := by omega
theorem q_3805 {x0 x1 x2 : Int} (h0 : ((x0 = (256 : Int)) ∧ ((x1 = (12 : Int)) ∧ (x2 = (256 : Int))))) : (x0 = (256 : Int)) := by omega
theorem q_3806 {x0 : Int} (h0 : (x0 ≤ (128 : Int))) (h1 : (((0 : Int) ≤ x0) ∧ (x0 ≤ (255 : Int)))) : (((0 : Int) ≤ x0) ∧ (x0 ≤ (128 : Int))) := by omega
theorem q_3807 {x0 x1 x2 : Int} (h0 : (x0 = (0 : Int))) : ((x0 = (0 : Int)) ∨ ((x0 ≠ (0 : Int)) ∧ (((x1 + (1 : Int)) / (2 : Int)) ≤ x2))) := by omega
theorem q_3808 {x0 : Int} (h0 : (x0 ≤ (128 : Int))) (h1 : (((0 : Int) ≤ x0) ∧ (x0 ≤ (255 : Int)))) : ((inr (x0 + (1 : Int))) ∧ ((0 : Int) ≤ (x0 + (1 : Int)))) := by omega
theorem q_3809 {x0 : Int} (h0 : (x0 ≤ (128 : Int))) (h1 : (((0 : Int) ≤ x0) ∧ (x0 ≤ (255 : Int)))) : (inr ((x0 + (1 : Int)) / (2 : Int))) := by omega
theorem q_3810 {x0 x1 x2 : Int} (h0 : ((x0 = (256 : Int)) ∧ ((x1 = (12 : Int)) ∧ (x2 = (256 : Int))))) : ((x0 = (256 : Int)) ∧ (x1 = (12 : Int))) := by omega
theorem q_3811 {x0 x1 x2 : Int} (h0 : (x0 ≠ (0 : Int))) (h1 : (((x1 + (1 : Int)) / (2 : Int)) ≤ x2)) : ((x0 = (0 : Int)) ∨ ((x0 ≠ (0 : Int)) ∧ (((x1 + (1 : Int)) / (2 : Int)) ≤ x2))) := by omega
theorem q_3812 {x0 : Int} (h0 : ((128 : Int) ≤ x0)) : (((x0 ≥ (128 : Int)) ∧ ((0 : Int) = (0 : Int))) ∨ ((x0 < (128 : Int)) ∧ ((0 : Int) = (1 : Int)))) := by omega
theorem q_3813 {x0 : Int} (h0 : (x0 < (128 : Int))) : (((x0 ≥ (128 : Int)) ∧ ((1 : Int) = (0 : Int))) ∨ ((x0 < (128 : Int)) ∧ ((1 : Int) = (1 : Int)))) := by omega
theorem q_3814 {x0 x1 : Int} (h0 : (x0 < (2 : Int))) : (((x0 < (2 : Int)) ∧ ((0 : Int) = (0 : Int))) ∨ (((x0 ≥ (2 : Int)) ∧ ((x1 ≠ (0 : Int)) ∧ ((0 : Int) = (0 : Int)))) ∨ ((x0 ≥ (2 : Int)) ∧ ((x1 = (0 : Int)) ∧ ((0 : Int) = (1 : Int)))))) := by omega
theorem q_3815 {x0 x1 : Int} (h0 : ((2 : Int) ≤ x0)) (h1 : (x1 ≠ (0 : Int))) : (((x0 < (2 : Int)) ∧ ((0 : Int) = (0 : Int))) ∨ (((x0 ≥ (2 : Int)) ∧ ((x1 ≠ (0 : Int)) ∧ ((0 : Int) = (0 : Int)))) ∨ ((x0 ≥ (2 : Int)) ∧ ((x1 = (0 : Int)) ∧ ((0 : Int) = (1 : Int)))))) := by omega
theorem q_3816 {x0 x1 : Int} (h0 : ((2 : Int) ≤ x0)) (h1 : (x1 = (0 : Int))) : (((x0 < (2 : Int)) ∧ ((1 : Int) = (0 : Int))) ∨ (((x0 ≥ (2 : Int)) ∧ ((x1 ≠ (0 : Int)) ∧ ((1 : Int) = (0 : Int)))) ∨ ((x0 ≥ (2 : Int)) ∧ ((x1 = (0 : Int)) ∧ ((1 : Int) = (1 : Int)))))) := by omega
theorem q_3817 {x0 x1 x2 x3 x4 : Int} (h0 : (x0 < x1)) (h1 : ((x2 = (256 : Int)) ∧ ((x3 = (12 : Int)) ∧ (x4 = (256 : Int))))) (h2 : (((0 : Int) ≤ x1) ∧ (x1 ≤ (255 : Int)))) (h3 : ((0 : Int) ≤ x0)) (h4 : (((0 : Int) ≤ x4) ∧ (x4 ≤ (1000000 : Int)))) : (((0 : Int) ≤ x0) ∧ (x0 < x4)) := by omega
theorem q_3818 {x0 x1 : Int} (h0 : (((0 : Int) ≤ x0) ∧ (x0 ≤ (11 : Int)))) (h1 : (((0 : Int) ≤ x1) ∧ (x1 ≤ x0))) : (((0 : Int) ≤ x1) ∧ (x1 < (12 : Int))) := by omega
theorem q_3819 {x0 x1 x2 x3 x4 : Int} (h0 : (x0 < x1)) (h1 : ((x2 = (256 : Int)) ∧ ((x3 = (12 : Int)) ∧ (x4 = (256 : Int))))) (h2 : (((0 : Int) ≤ x1) ∧ (x1 ≤ (255 : Int)))) (h3 : ((0 : Int) ≤ x0)) (h4 : (((0 : Int) ≤ x2) ∧ (x2 ≤ (1000000 : Int)))) : (((0 : Int) ≤ x0) ∧ (x0 < x2)) := by omega
theorem q_3820 {x0 x1 x2 : Int} (h0 : ((x0 = (256 : Int)) ∧ ((x1 = (12 : Int)) ∧ (x2 = (256 : Int))))) (h1 : (((0 : Int) ≤ x0) ∧ (x0 ≤ (1000000 : Int)))) : (((0 : Int) ≤ (0 : Int)) ∧ ((0 : Int) < x0)) := by omega
theorem q_3821 {x0 x1 x2 x3 : Int} (h0 : (x0 ≠ (0 : Int))) (h1 : (x1 = x2)) (h2 : (inr x2)) : (((x0 ≠ (0 : Int)) ∧ (((-(2147483648 : Int)) ≤ x1) ∧ ((x1 ≤ (2147483647 : Int)) ∧ (((x3 + (1 : Int)) - x2) = ((x3 + (1 : Int)) - x1))))) ∨ ((x0 = (0 : Int)) ∧ (((x3 + (1 : Int)) - x2) = (0 : Int)))) := by omega
theorem q_3822 {x0 x1 x2 : Int} (h0 : (x0 = (0 : Int))) : (((x0 ≠ (0 : Int)) ∧ (((-(2147483648 : Int)) ≤ x1) ∧ ((x1 ≤ (2147483647 : Int)) ∧ ((0 : Int) = ((x2 + (1 : Int)) - x1))))) ∨ ((x0 = (0 : Int)) ∧ ((0 : Int) = (0 : Int)))) := by omega
theorem q_3823 {x0 x1 : Int} (h0 : (x0 ≤ (0 : Int))) : ((x0 ≤ (0 : Int)) ∨ ((x0 > (0 : Int)) ∧ (((-(2147483648 : Int)) ≤ x1) ∧ ((x1 ≤ (2147483647 : Int)) ∧ (x1 ≠ (0 : Int)))))) := by omega
theorem q_3824 {x0 x1 x2 x3 : Int} (h0 : ((x0 = (256 : Int)) ∧ ((x1 = (12 : Int)) ∧ (x2 = (256 : Int))))) (h1 : (x3 ≤ (255 : Int))) (h2 : ((0 : Int) ≤ x3)) : (((0 : Int) ≤ x3) ∧ (x3 < x2)) := by omega
theorem q_3825 {x0 x1 x2 x3 : Int} (h0 : ((x0 = (256 : Int)) ∧ ((x1 = (12 : Int)) ∧ (x2 = (256 : Int))))) (h1 : (x3 ≤ (255 : Int))) (h2 : ((0 : Int) ≤ x3)) : (((0 : Int) ≤ x3) ∧ (x3 < x0)) := by omega
theorem q_3826 {x0 : Int} (h0 : ((0 : Int) < x0)) : ((0 : Int) ≤ (x0 + (-(1 : Int)))) := by omega
theorem q_3827 {x0 : Int} (h0 : ((0 : Int) < x0)) : (((255 : Int) ≤ (x0 + (-(1 : Int)))) ∨ ((0 : Int) ≤ (x0 + (-(1 : Int))))) := by omega
theorem q_3828 {x0 : Int} (h0 : (x0 ≤ (255 : Int))) : ((x0 + (-(1 : Int))) ≤ (255 : Int)) := by omega
theorem q_3829 {x0 : Int} (h0 : ((0 : Int) < x0)) (h1 : (x0 ≤ (255 : Int))) : (inr (x0 + (-(1 : Int)))) := by omega
theorem q_3830 : ((-(1 : Int)) = (-(1 : Int))) := by omega
theorem q_3831 {x0 : Int} (h0 : ((3 : Int) ≤ x0)) (h1 : ((x0 ≤ (0 : Int)) ∨ (x0 ≤ (3 : Int)))) : (x0 = (3 : Int)) := by omega
theorem q_3832 {x0 x1 x2 : Int} (h0 : (x0 < (3 : Int))) (h1 : ((x1 = (3 : Int)) ∧ (x2 = (3 : Int)))) (h2 : ((0 : Int) ≤ x0)) : (((0 : Int) ≤ x0) ∧ (x0 < x1)) := by omega
theorem q_3833 {x0 x1 x2 : Int} (h0 : (x0 < (3 : Int))) (h1 : ((x1 = (3 : Int)) ∧ (x2 = (3 : Int)))) (h2 : ((0 : Int) ≤ x0)) : (((0 : Int) ≤ x0) ∧ (x0 < x2)) := by omega
theorem q_3834 {x0 x1 x2 : Int} (h0 : ((x0 = (0 : Int)) ∧ ((x1 = (0 : Int)) ∧ (x2 = (0 : Int))))) : (x2 = (0 : Int)) := by omega
theorem q_3835 {x0 x1 x2 : Int} (h0 : ((x0 = (0 : Int)) ∧ ((x1 = (0 : Int)) ∧ (x2 = (0 : Int))))) : (x0 = (0 : Int)) := by omega
theorem q_3836 {x0 x1 x2 : Int} (h0 : (((0 : Int) ≤ x0) ∧ ((x0 ≤ (65536 : Int)) ∧ (((0 : Int) ≤ x1) ∧ ((x1 ≤ x2) ∧ (x2 ≤ (65536 : Int))))))) : (inr ((x1 - x0) - (12 : Int))) := by omega
theorem q_3837 {x0 x1 x2 : Int} (h0 : (((0 : Int) ≤ x0) ∧ ((x0 ≤ (65536 : Int)) ∧ (((0 : Int) ≤ x1) ∧ ((x1 ≤ x2) ∧ (x2 ≤ (65536 : Int))))))) : ((((x1 - x0) - (12 : Int)) < (0 : Int)) ∨ (((0 : Int) ≤ (x0 + (12 : Int))) ∧ (((x0 + (12 : Int)) + ((x1 - x0) - (12 : Int))) ≤ x2))) := by omega
theorem q_3838 {x0 x1 x2 : Int} (h0 : ((0 : Int) ≤ ((x0 - x1) - (12 : Int)))) (h1 : (((0 : Int) ≤ x1) ∧ ((x1 ≤ (65536 : Int)) ∧ (((0 : Int) ≤ x0) ∧ ((x0 ≤ x2) ∧ (x2 ≤ (65536 : Int))))))) : (inr ((x0 - x1) - (12 : Int))) := by omega
theorem q_3839 {x0 x1 x2 : Int} (h0 : (((0 : Int) ≤ x0) ∧ ((x0 ≤ (65536 : Int)) ∧ (((0 : Int) ≤ x1) ∧ ((x1 ≤ x2) ∧ (x2 ≤ (65536 : Int))))))) : (inr (x0 + (12 : Int))) := by omega
theorem q_3840 {x0 : Int} (h0 : (x0 = (0 : Int))) : (x0 ≤ (0 : Int)) := by omega
theorem q_3841 {x0 x1 x2 x3 x4 x5 : Int} (h0 : ((0 : Int) ≤ ((x0 - x1) - (12 : Int)))) (h1 : (x2 = (0 : Int))) (h2 : (((0 : Int) ≤ x1) ∧ ((x1 ≤ (65536 : Int)) ∧ (((0 : Int) ≤ x0) ∧ ((x0 ≤ x3) ∧ (x3 ≤ (65536 : Int))))))) (h3 : (((0 : Int) ≤ x4) ∧ ((x4 ≤ x5) ∧ (x5 ≤ (65536 : Int))))) (h4 : (((x4 = (x2 + ((x0 - x1) - (12 : Int)))) ∧ ((0 : Int) ≤ ((x0 - x1) - (12 : Int)))) ∨ ((x4 = x2) ∧ ((((x0 - x1) - (12 : Int)) < (0 : Int)) ∨ ((65536 : Int) < (x2 + ((x0 - x1) - (12 : Int)))))))) : ((((x0 - x1) - (12 : Int)) < (0 : Int)) ∨ (x4 = ((x0 - x1) - (12 : Int)))) := by omega
theorem q_3842 {x0 x1 x2 : Int} (h0 : ((0 : Int) ≤ ((x0 - x1) - (12 : Int)))) (h1 : (((0 : Int) ≤ x1) ∧ ((x1 ≤ (65536 : Int)) ∧ (((0 : Int) ≤ x0) ∧ ((x0 ≤ x2) ∧ (x2 ≤ (65536 : Int))))))) : (((-(4 : Int)) ≤ ((x0 - x1) - (12 : Int))) ∧ (((x0 - x1) - (12 : Int)) ≤ (65536 : Int))) := by omega
theorem q_3843 {x0 x1 x2 x3 : Int} (h0 : ((0 : Int) ≤ ((x0 - x1) - (12 : Int)))) (h1 : (x2 < (3 : Int))) (h2 : (((0 : Int) ≤ x1) ∧ ((x1 ≤ (65536 : Int)) ∧ (((0 : Int) ≤ x0) ∧ ((x0 ≤ x3) ∧ (x3 ≤ (65536 : Int))))))) (h3 : ((0 : Int) ≤ x2)) : (((4 : Int) ≤ (0 : Int)) ∨ (((0 : Int) ≤ (x1 + ((4 : Int) * x2))) ∧ (((x1 + ((4 : Int) * x2)) + (4 : Int)) ≤ x3))) := by omega
theorem q_3844 {x0 x1 x2 x3 : Int} (h0 : (x0 < (3 : Int))) (h1 : (((0 : Int) ≤ x1) ∧ ((x1 ≤ (65536 : Int)) ∧ (((0 : Int) ≤ x2) ∧ ((x2 ≤ x3) ∧ (x3 ≤ (65536 : Int))))))) (h2 : ((0 : Int) ≤ x0)) : (inr (x1 + ((4 : Int) * x0))) := by omega
theorem q_3845 {x0 x1 : Int} (h0 : (x0 < (3 : Int))) (h1 : (x1 = (3 : Int))) (h2 : ((0 : Int) ≤ x0)) : (((0 : Int) ≤ x0) ∧ (x0 < x1)) := by omega
theorem q_3846 {x0 : Int} : (((-(4 : Int)) < (0 : Int)) ∨ (x0 = (0 : Int))) := by omega
theorem q_3847 {x0 : Int} : (((-(4 : Int)) < (0 : Int)) ∨ (x0 = (-(4 : Int)))) := by omega
theorem q_3848 : (((-(4 : Int)) ≤ (-(4 : Int))) ∧ ((-(4 : Int)) ≤ (65536 : Int))) := by omega
theorem q_3849 {x0 x1 x2 : Int} (h0 : ((0 : Int) ≤ ((x0 - x1) - (12 : Int)))) (h1 : (((0 : Int) ≤ x1) ∧ ((x1 ≤ (65536 : Int)) ∧ (((0 : Int) ≤ x0) ∧ ((x0 ≤ x2) ∧ (x2 ≤ (65536 : Int))))))) : (inrJ ((x0 - x1) - (12 : Int))) := by omega
theorem q_3850 {x0 : Int} : (((-(1 : Int)) < (0 : Int)) ∨ (x0 = (0 : Int))) := by omega
theorem q_3851 {x0 : Int} : (((-(1 : Int)) < (0 : Int)) ∨ (x0 = (-(1 : Int)))) := by omega
theorem q_3852 : (((-(4 : Int)) ≤ (-(1 : Int))) ∧ ((-(1 : Int)) ≤ (65536 : Int))) := by omega
theorem q_3853 {x0 x1 : Int} (h0 : ((x0 = (3 : Int)) ∧ (x1 = (3 : Int)))) (h1 : (((0 : Int) ≤ x1) ∧ (x1 ≤ (1000000 : Int)))) : (((0 : Int) ≤ (0 : Int)) ∧ ((0 : Int) < x1)) := by omega
theorem q_3854 {x0 x1 : Int} (h0 : ((x0 = (3 : Int)) ∧ (x1 = (3 : Int)))) (h1 : (((0 : Int) ≤ x0) ∧ (x0 ≤ (1000000 : Int)))) : (((0 : Int) ≤ (0 : Int)) ∧ ((0 : Int) < x0)) := by omega
theorem q_3855 : (((0 : Int) ≤ (0 : Int)) ∧ ((0 : Int) < (3 : Int))) := by omega
theorem q_3856 {x0 x1 x2 : Int} (h0 : ((0 : Int) ≤ x0)) (h1 : ((x0 = (-(1 : Int))) ∨ (((0 : Int) ≤ x0) ∧ (x0 ≤ x1)))) (h2 : (((0 : Int) ≤ x1) ∧ ((x1 ≤ x2) ∧ (x2 ≤ (65536 : Int))))) : (((0 : Int) ≤ x0) ∧ ((x0 ≤ x1) ∧ ((x1 ≤ x2) ∧ (x2 ≤ (65536 : Int))))) := by omega
theorem q_3857 {x0 x1 : Int} : (((0 : Int) = (0 : Int)) ∨ (x0 = x1)) := by omega
theorem q_3858 {x0 : Int} : (((-(1 : Int)) = (-(1 : Int))) ∨ (x0 ≤ (9 : Int))) := by omega
theorem q_3859 {x0 x1 : Int} : (((-(1 : Int)) = (-(1 : Int))) ∨ (((0 : Int) ≤ x0) ∧ ((x0 ≤ (-(1 : Int))) ∧ ((-(1 : Int)) ≤ x1)))) := by omega
theorem q_3860 {x0 x1 : Int} (h0 : ((x0 = (3 : Int)) ∧ (x1 = (3 : Int)))) (h1 : (((0 : Int) ≤ x1) ∧ (x1 ≤ (1000000 : Int)))) : (((0 : Int) ≤ (1 : Int)) ∧ ((1 : Int) < x1)) := by omega
theorem q_3861 {x0 x1 : Int} (h0 : ((x0 = (3 : Int)) ∧ (x1 = (3 : Int)))) (h1 : (((0 : Int) ≤ x0) ∧ (x0 ≤ (1000000 : Int)))) : (((0 : Int) ≤ (1 : Int)) ∧ ((1 : Int) < x0)) := by omega
theorem q_3862 : (((0 : Int) ≤ (1 : Int)) ∧ ((1 : Int) < (3 : Int))) := by omega
theorem q_3863 {x0 x1 : Int} : (((1 : Int) = (1 : Int)) ∨ (x0 = x1)) := by omega
theorem q_3864 {x0 : Int} : (((-(1 : Int)) = (-(1 : Int))) ∨ (x0 ≤ (8 : Int))) := by omega
theorem q_3865 {x0 x1 : Int} (h0 : ((x0 = (3 : Int)) ∧ (x1 = (3 : Int)))) : (((0 : Int) ≤ (2 : Int)) ∧ ((2 : Int) < x1)) := by omega
theorem q_3866 {x0 x1 : Int} (h0 : ((x0 = (3 : Int)) ∧ (x1 = (3 : Int)))) : (((0 : Int) ≤ (2 : Int)) ∧ ((2 : Int) < x0)) := by omega
theorem q_3867 : (((0 : Int) ≤ (2 : Int)) ∧ ((2 : Int) < (3 : Int))) := by omega
theorem q_3868 {x0 x1 : Int} : (((2 : Int) = (2 : Int)) ∨ (x0 = x1)) := by omega
theorem q_3869 {x0 x1 x2 : Int} (h0 : ((x0 = (3 : Int)) ∧ ((x1 = (3 : Int)) ∧ (x2 = (3 : Int))))) : ((x0 = (3 : Int)) ∧ (x1 = (3 : Int))) := by omega
theorem q_3870 {x0 x1 : Int} (h0 : (x0 = (0 : Int))) : ((x1 < (0 : Int)) ∨ (x0 = (0 : Int))) := by omega
theorem q_3871 {x0 x1 x2 x3 x4 : Int} (h0 : ((x0 = (-(1 : Int))) ∧ ((x1 = (-(1 : Int))) ∧ (x2 = (-(1 : Int)))))) : ((x3 < (0 : Int)) ∨ ((x2 = (-(1 : Int))) ∨ (x4 ≤ (9 : Int)))) := by omega
theorem q_3872 {x0 x1 x2 x3 x4 : Int} (h0 : ((x0 = (-(1 : Int))) ∧ ((x1 = (-(1 : Int))) ∧ (x2 = (-(1 : Int)))))) : ((x3 < (0 : Int)) ∨ ((x1 = (-(1 : Int))) ∨ (x4 ≤ (8 : Int)))) := by omega
theorem q_3873 {x0 x1 x2 x3 x4 : Int} (h0 : ((x0 = (-(1 : Int))) ∧ ((x1 = (-(1 : Int))) ∧ (x2 = (-(1 : Int)))))) : ((x3 < (0 : Int)) ∨ ((x0 = (-(1 : Int))) ∨ (x4 ≤ (9 : Int)))) := by omega
theorem q_3874 {x0 x1 x2 x3 x4 : Int} (h0 : ((x0 = (-(1 : Int))) ∧ ((x1 = (-(1 : Int))) ∧ (x2 = (-(1 : Int)))))) : ((x3 < (0 : Int)) ∨ ((x2 = (-(1 : Int))) ∨ (x2 = x4))) := by omega
theorem q_3875 {x0 x1 x2 x3 x4 : Int} (h0 : ((x0 = (-(1 : Int))) ∧ ((x1 = (-(1 : Int))) ∧ (x2 = (-(1 : Int)))))) : ((x3 < (0 : Int)) ∨ ((x1 = (-(1 : Int))) ∨ (x1 = x4))) := by omega
theorem q_3876 {x0 x1 x2 x3 x4 : Int} (h0 : ((x0 = (-(1 : Int))) ∧ ((x1 = (-(1 : Int))) ∧ (x2 = (-(1 : Int)))))) : ((x3 < (0 : Int)) ∨ ((x0 = (-(1 : Int))) ∨ (x0 = x4))) := by omega
theorem q_3877 {x0 x1 x2 x3 : Int} (h0 : (x0 = (-(1 : Int)))) : ((x1 < (0 : Int)) ∨ ((x0 = (-(1 : Int))) ∨ ((x0 = x2) ∧ (((0 : Int) ≤ x3) ∧ (x3 ≤ (11 : Int)))))) := by omega
theorem q_3878 {x0 x1 : Int} (h0 : (x0 = x1)) : ((x1 < (0 : Int)) ∨ (x0 ≤ x1)) := by omega
theorem q_3879 {x0 x1 : Int} (h0 : (x0 < (4 : Int))) (h1 : (((0 : Int) ≤ x0) ∧ ((x0 ≤ x1) ∧ (x1 ≤ (65536 : Int))))) : (((-(4 : Int)) ≤ x0) ∧ (x0 ≤ (65536 : Int))) := by omega
theorem q_3880 {x0 x1 : Int} (h0 : (x0 < (4 : Int))) (h1 : (((0 : Int) ≤ x0) ∧ ((x0 ≤ x1) ∧ (x1 ≤ (65536 : Int))))) : (inr x0) := by omega
theorem q_3881 {x0 x1 : Int} (h0 : ((4 : Int) ≤ x0)) (h1 : (((0 : Int) ≤ x0) ∧ ((x0 ≤ x1) ∧ (x1 ≤ (65536 : Int))))) : (((0 : Int) ≤ (0 : Int)) ∧ (((0 : Int) + (4 : Int)) ≤ x1)) := by omega
theorem q_3882 : (inr (-(332356553 : Int))) := by omega
theorem q_3883 {x0 x1 : Int} (h0 : ((4 : Int) ≤ x0)) (h1 : (((0 : Int) ≤ x0) ∧ ((x0 ≤ x1) ∧ (x1 ≤ (65536 : Int))))) : (inr x0) := by omega
theorem q_3884 {x0 x1 : Int} (h0 : ((8 : Int) ≤ x0)) (h1 : (((0 : Int) ≤ x0) ∧ ((x0 ≤ x1) ∧ (x1 ≤ (65536 : Int))))) : (((0 : Int) ≤ (4 : Int)) ∧ (((4 : Int) + (4 : Int)) ≤ x1)) := by omega
theorem q_3885 {x0 x1 : Int} (h0 : (((0 : Int) ≤ x0) ∧ ((x0 ≤ x1) ∧ (x1 ≤ (65536 : Int))))) : (((0 : Int) ≤ (8 : Int)) ∧ (((8 : Int) ≤ (65536 : Int)) ∧ (((0 : Int) ≤ x0) ∧ ((x0 ≤ x1) ∧ (x1 ≤ (65536 : Int)))))) := by omega
theorem q_3886 {x0 x1 : Int} (h0 : ((8 : Int) ≤ x0)) (h1 : (((0 : Int) ≤ x0) ∧ ((x0 ≤ x1) ∧ (x1 ≤ (65536 : Int))))) : (inr x0) := by omega
theorem q_3887 {x0 x1 x2 : Int} (h0 : ((x0 = (3 : Int)) ∧ ((x1 = (3 : Int)) ∧ (x2 = (3 : Int))))) : ((x0 = (3 : Int)) ∧ (x2 = (3 : Int))) := by omega
theorem q_3888 {x0 x1 x2 : Int} (h0 : ((x0 = (3 : Int)) ∧ ((x1 = (3 : Int)) ∧ (x2 = (3 : Int))))) : (x1 = (3 : Int)) := by omega
theorem q_3889 {x0 x1 x2 x3 x4 x5 : Int} (h0 : ((0 : Int) ≤ x0)) (h1 : ((x0 = (-(1 : Int))) ∨ (x1 ≤ (9 : Int)))) (h2 : (((0 : Int) ≤ x2) ∧ ((x2 ≤ x3) ∧ (x3 ≤ (65536 : Int))))) (h3 : ((x0 = (-(1 : Int))) ∨ (((0 : Int) ≤ x0) ∧ ((x0 ≤ x2) ∧ (((0 : Int) ≤ x4) ∧ ((0 : Int) ≤ x5)))))) : (((0 : Int) ≤ x0) ∧ ((x0 ≤ (65536 : Int)) ∧ (((0 : Int) ≤ x2) ∧ ((x2 ≤ x3) ∧ (x3 ≤ (65536 : Int)))))) := by omega
theorem q_3890 {x0 x1 x2 x3 : Int} (h0 : (((0 : Int) ≤ x0) ∧ ((x0 ≤ x1) ∧ (x1 ≤ (65536 : Int))))) (h1 : ((x2 < (0 : Int)) ∨ (x0 = x2))) (h2 : ((x2 < (0 : Int)) ∨ (x3 = (0 : Int)))) : ((x2 < (0 : Int)) ∨ (x0 ≤ x2)) := by omega
theorem q_3891 {x0 x1 x2 x3 : Int} (h0 : (x0 = x1)) (h1 : (x2 = x1)) : ((x3 < (0 : Int)) ∨ ((x2 = (-(1 : Int))) ∨ (x2 = x0))) := by omega
theorem q_3892 {x0 : Int} : (((-(3 : Int)) < (0 : Int)) ∨ (x0 = (0 : Int))) := by omega
theorem q_3893 {x0 x1 : Int} : (((-(3 : Int)) < (0 : Int)) ∨ ((x0 = (-(1 : Int))) ∨ (x1 ≤ (9 : Int)))) := by omega
theorem q_3894 {x0 x1 : Int} : (((-(3 : Int)) < (0 : Int)) ∨ ((x0 = (-(1 : Int))) ∨ (x1 ≤ (8 : Int)))) := by omega
theorem q_3895 {x0 x1 : Int} : (((-(3 : Int)) < (0 : Int)) ∨ ((x0 = (-(1 : Int))) ∨ (x0 = x1))) := by omega
theorem q_3896 {x0 x1 x2 : Int} : (((-(3 : Int)) < (0 : Int)) ∨ ((x0 = (-(1 : Int))) ∨ ((x0 = x1) ∧ (((0 : Int) ≤ x2) ∧ (x2 ≤ (11 : Int)))))) := by omega
theorem q_3897 {x0 : Int} : (((-(3 : Int)) < (0 : Int)) ∨ (x0 ≤ (-(3 : Int)))) := by omega
theorem q_3898 : (((-(4 : Int)) ≤ (-(3 : Int))) ∧ ((-(3 : Int)) ≤ (65536 : Int))) := by omega
theorem q_3899 {x0 : Int} : (((-(2 : Int)) < (0 : Int)) ∨ (x0 = (0 : Int))) := by omega
theorem q_3900 {x0 x1 : Int} : (((-(2 : Int)) < (0 : Int)) ∨ ((x0 = (-(1 : Int))) ∨ (x1 ≤ (9 : Int)))) := by omega
theorem q_3901 {x0 x1 : Int} : (((-(2 : Int)) < (0 : Int)) ∨ ((x0 = (-(1 : Int))) ∨ (x1 ≤ (8 : Int)))) := by omega
theorem q_3902 {x0 x1 : Int} : (((-(2 : Int)) < (0 : Int)) ∨ ((x0 = (-(1 : Int))) ∨ (x0 = x1))) := by omega
theorem q_3903 {x0 x1 x2 : Int} : (((-(2 : Int)) < (0 : Int)) ∨ ((x0 = (-(1 : Int))) ∨ ((x0 = x1) ∧ (((0 : Int) ≤ x2) ∧ (x2 ≤ (11 : Int)))))) := by omega
theorem q_3904 {x0 : Int} : (((-(2 : Int)) < (0 : Int)) ∨ (x0 ≤ (-(2 : Int)))) := by omega
theorem q_3905 : (((-(4 : Int)) ≤ (-(2 : Int))) ∧ ((-(2 : Int)) ≤ (65536 : Int))) := by omega
theorem q_3906 {x0 x1 : Int} : (((-(1 : Int)) < (0 : Int)) ∨ ((x0 = (-(1 : Int))) ∨ (x1 ≤ (9 : Int)))) := by omega
theorem q_3907 {x0 x1 : Int} : (((-(1 : Int)) < (0 : Int)) ∨ ((x0 = (-(1 : Int))) ∨ (x1 ≤ (8 : Int)))) := by omega
theorem q_3908 {x0 x1 : Int} : (((-(1 : Int)) < (0 : Int)) ∨ ((x0 = (-(1 : Int))) ∨ (x0 = x1))) := by omega
theorem q_3909 {x0 x1 x2 : Int} : (((-(1 : Int)) < (0 : Int)) ∨ ((x0 = (-(1 : Int))) ∨ ((x0 = x1) ∧ (((0 : Int) ≤ x2) ∧ (x2 ≤ (11 : Int)))))) := by omega
theorem q_3910 {x0 : Int} : (((-(1 : Int)) < (0 : Int)) ∨ (x0 ≤ (-(1 : Int)))) := by omega
theorem q_3911 {x0 x1 : Int} (h0 : ((4 : Int) ≤ x0)) (h1 : (((0 : Int) ≤ x0) ∧ ((x0 ≤ x1) ∧ (x1 ≤ (65536 : Int))))) : (((-(4 : Int)) ≤ x0) ∧ (x0 ≤ (65536 : Int))) := by omega
theorem q_3912 {x0 : Int} (h0 : (x0 = (10 : Int))) (h1 : (((0 : Int) ≤ x0) ∧ (x0 ≤ (1000000 : Int)))) : (((0 : Int) ≤ (3 : Int)) ∧ ((3 : Int) < x0)) := by omega
theorem q_3913 {x0 x1 x2 x3 x4 : Int} (h0 : (((0 : Int) ≤ x0) ∧ ((x0 ≤ x1) ∧ (x1 ≤ (65536 : Int))))) (h1 : ((x2 + x0) ≤ (16384 : Int))) (h2 : (((0 : Int) ≤ x3) ∧ ((x3 ≤ x4) ∧ (x4 ≤ (65536 : Int))))) (h3 : (x3 = x2)) : (((0 : Int) ≤ x3) ∧ ((x3 ≤ x4) ∧ ((x4 ≤ (65536 : Int)) ∧ (x3 ≤ (16384 : Int))))) := by omega
theorem q_3914 {x0 x1 : Int} (h0 : (x0 = x1)) : ((x1 ≤ x0) ∧ (x0 ≤ (x1 + (0 : Int)))) := by omega
theorem q_3915 {x0 x1 x2 : Int} (h0 : (x0 = (0 : Int))) (h1 : ((x0 ≤ x1) ∧ ((x1 ≤ x2) ∧ (x2 ≤ (16384 : Int))))) : (((0 : Int) ≤ x1) ∧ (x1 ≤ x1)) := by omega
theorem q_3916 {x0 x1 x2 : Int} (h0 : (x0 = (0 : Int))) (h1 : ((x0 ≤ x1) ∧ ((x1 ≤ x2) ∧ (x2 ≤ (16384 : Int))))) : (((0 : Int) ≤ x1) ∧ ((x1 ≤ x2) ∧ (x2 ≤ (16384 : Int)))) := by omega
theorem q_3917 {x0 : Int} : (x0 = ((0 : Int) + (x0 - (0 : Int)))) := by omega
theorem q_3918 {x0 x1 x2 x3 : Int} (h0 : (((0 : Int) ≤ x0) ∧ ((x0 ≤ x1) ∧ (x1 ≤ (65536 : Int))))) (h1 : ((x0 + x2) ≤ (16384 : Int))) (h2 : (((0 : Int) ≤ x3) ∧ (x3 ≤ (x2 + (65536 : Int))))) : (inr x3) := by omega
theorem q_3919 {x0 x1 x2 : Int} (h0 : (x0 < x1)) (h1 : (((0 : Int) ≤ x1) ∧ ((x1 ≤ x2) ∧ (x2 ≤ (65536 : Int))))) (h2 : (((0 : Int) ≤ x0) ∧ (x0 ≤ (x1 + (65536 : Int))))) : (inr (x1 - x0)) := by omega
theorem q_3920 {x0 x1 x2 x3 x4 : Int} (h0 : (((0 : Int) ≤ x0) ∧ ((x0 ≤ x1) ∧ (x1 ≤ (65536 : Int))))) (h1 : (((0 : Int) ≤ x2) ∧ (((x3 + x2) ≤ x0) ∧ ((x2 ≤ (16384 : Int)) ∧ (x2 ≤ x4))))) (h2 : (((0 : Int) ≤ x3) ∧ (x3 ≤ (x0 + (65536 : Int))))) : ((x2 < (0 : Int)) ∨ (((0 : Int) ≤ x3) ∧ ((x3 + x2) ≤ x1))) := by omega
theorem q_3921 {x0 x1 x2 x3 : Int} (h0 : (((0 : Int) ≤ x0) ∧ (((x1 + x0) ≤ x2) ∧ ((x0 ≤ (16384 : Int)) ∧ (x0 ≤ x3))))) : (inr x0) := by omega
theorem q_3922 {x0 x1 x2 x3 : Int} (h0 : (x0 < x1)) (h1 : (((0 : Int) ≤ x2) ∧ ((x2 ≤ x3) ∧ (x3 ≤ (65536 : Int))))) (h2 : ((x2 + x1) ≤ (16384 : Int))) (h3 : (((0 : Int) ≤ x0) ∧ (x0 ≤ (x1 + (65536 : Int))))) : (inr x0) := by omega
theorem q_3923 {x0 x1 x2 x3 x4 x5 x6 : Int} (h0 : (((0 : Int) ≤ x0) ∧ (((x1 + x0) ≤ x2) ∧ ((x0 ≤ (16384 : Int)) ∧ (x0 ≤ x3))))) (h1 : (((0 : Int) ≤ x4) ∧ ((x4 ≤ x5) ∧ ((x5 ≤ (65536 : Int)) ∧ (x4 ≤ (16384 : Int)))))) (h2 : (((x6 = (x4 + x0)) ∧ ((0 : Int) ≤ x0)) ∨ ((x6 = x4) ∧ ((x0 < (0 : Int)) ∨ ((65536 : Int) < (x4 + x0)))))) : (x6 = (x4 + x0)) := by omega
theorem q_3924 {x0 x1 x2 x3 : Int} (h0 : ((x0 = (65535 : Int)) ∧ ((x1 = x2) ∧ (x3 = (0 : Int))))) : (x0 = (65535 : Int)) := by omega
theorem q_3925 {x0 x1 x2 x3 x4 x5 x6 : Int} (h0 : (x0 = (x1 + x2))) (h1 : (((0 : Int) ≤ x2) ∧ (((x3 + x2) ≤ x4) ∧ ((x2 ≤ (16384 : Int)) ∧ (x2 ≤ x5))))) (h2 : (((0 : Int) ≤ x1) ∧ ((x1 ≤ x6) ∧ ((x6 ≤ (65536 : Int)) ∧ (x1 ≤ (16384 : Int)))))) : (((0 : Int) ≤ x1) ∧ (x1 ≤ x0)) := by omega
theorem q_3926 {x0 x1 x2 x3 x4 x5 x6 x7 : Int} (h0 : ((x0 + x1) ≤ (16384 : Int))) (h1 : (x2 = (x3 + x4))) (h2 : (((0 : Int) ≤ x4) ∧ (((x5 + x4) ≤ x1) ∧ ((x4 ≤ (16384 : Int)) ∧ (x4 ≤ x6))))) (h3 : ((x0 ≤ x3) ∧ (x3 ≤ (x0 + x5)))) (h4 : (((0 : Int) ≤ x2) ∧ ((x2 ≤ x7) ∧ (x7 ≤ (65536 : Int))))) : (((0 : Int) ≤ x2) ∧ ((x2 ≤ x7) ∧ ((x7 ≤ (65536 : Int)) ∧ (x2 ≤ (16384 : Int))))) := by omega
theorem q_3927 {x0 x1 x2 x3 : Int} (h0 : (((0 : Int) ≤ x0) ∧ (x0 ≤ x1))) (h1 : (((0 : Int) ≤ x2) ∧ ((x1 ≤ x2) ∧ ((x2 ≤ x3) ∧ (x3 ≤ (16384 : Int)))))) : (x0 ≤ x2) := by omega
theorem q_3928 {x0 x1 x2 x3 : Int} (h0 : ((x0 = (65535 : Int)) ∧ ((x1 = x2) ∧ (x3 = (0 : Int))))) : (x1 = x2) := by omega
theorem q_3929 {x0 x1 x2 x3 x4 x5 x6 : Int} (h0 : (x0 = (x1 + x2))) (h1 : (((0 : Int) ≤ x2) ∧ (((x3 + x2) ≤ x4) ∧ ((x2 ≤ (16384 : Int)) ∧ (x2 ≤ x5))))) (h2 : ((x6 ≤ x1) ∧ (x1 ≤ (x6 + x3)))) : ((x6 ≤ x0) ∧ (x0 ≤ (x6 + (x3 + x5)))) := by omega
theorem q_3930 {x0 x1 x2 : Int} (h0 : (x0 ≤ x1)) (h1 : (((0 : Int) ≤ x0) ∧ (x0 ≤ x2))) : (((0 : Int) ≤ x0) ∧ (x0 ≤ x1)) := by omega
theorem q_3931 {x0 x1 x2 x3 x4 : Int} (h0 : ((0 : Int) < x0)) (h1 : (x1 < x2)) (h2 : (((0 : Int) ≤ x3) ∧ ((x3 ≤ x4) ∧ (x4 ≤ (65536 : Int))))) (h3 : ((x3 + x2) ≤ (16384 : Int))) (h4 : (((1 : Int) ≤ x0) ∧ (x0 ≤ (65536 : Int)))) (h5 : (((0 : Int) ≤ x1) ∧ (x1 ≤ (x2 + (65536 : Int))))) : (inr (x1 + x0)) := by omega
theorem q_3932 {x0 x1 x2 x3 : Int} (h0 : (((0 : Int) ≤ x0) ∧ (x0 ≤ x1))) (h1 : ((x2 ≤ x0) ∧ ((x0 ≤ x3) ∧ (x3 ≤ (16384 : Int))))) : (inr x0) := by omega
theorem q_3933 {x0 x1 x2 : Int} (h0 : (((0 : Int) ≤ x0) ∧ (x0 ≤ (x1 + (65536 : Int))))) : ((x2 ≤ x2) ∧ (x2 ≤ (x2 + x0))) := by omega
theorem q_3934 {x0 x1 x2 : Int} (h0 : (((0 : Int) ≤ x0) ∧ (x0 ≤ x1))) (h1 : (x2 = x0)) : (((0 : Int) ≤ x0) ∧ (x0 ≤ x2)) := by omega
theorem q_3935 {x0 x1 x2 x3 : Int} (h0 : (((0 : Int) ≤ x0) ∧ (x0 ≤ x1))) (h1 : (((0 : Int) ≤ x1) ∧ ((x1 ≤ x2) ∧ (x2 ≤ (16384 : Int))))) (h2 : (x3 = x0)) : (((0 : Int) ≤ x3) ∧ ((x3 ≤ x2) ∧ (x2 ≤ (16384 : Int)))) := by omega
theorem q_3936 {x0 x1 x2 x3 x4 : Int} (h0 : (((0 : Int) ≤ x0) ∧ ((x0 ≤ x1) ∧ (x1 ≤ (65536 : Int))))) (h1 : ((x0 ≤ x2) ∧ (x2 ≤ (x0 + x3)))) (h2 : (((0 : Int) ≤ x2) ∧ ((x2 ≤ x4) ∧ ((x4 ≤ (65536 : Int)) ∧ (x2 ≤ (16384 : Int)))))) : (((0 : Int) ≤ x0) ∧ ((x0 ≤ x4) ∧ ((x4 ≤ (65536 : Int)) ∧ (x0 ≤ (16384 : Int))))) := by omega
theorem q_3937 : (((0 : Int) ≤ (131072 : Int)) ∧ ((131072 : Int) ≤ (131072 : Int))) := by omega
theorem q_3938 {x0 : Int} (h0 : (x0 = (5 : Int))) : (((0 : Int) ≤ (4 : Int)) ∧ ((4 : Int) < x0)) := by omega
theorem q_3939 {x0 x1 : Int} (h0 : ((0 : Int) ≤ x0)) : (((x0 ≥ (0 : Int)) ∧ (x1 = x1)) ∨ ((x0 < (0 : Int)) ∧ (x1 = (4611686018427387904 : Int)))) := by omega
theorem q_3940 {x0 x1 : Int} (h0 : (x0 < (0 : Int))) : (((x0 ≥ (0 : Int)) ∧ ((4611686018427387904 : Int) = x1)) ∨ ((x0 < (0 : Int)) ∧ ((4611686018427387904 : Int) = (4611686018427387904 : Int)))) := by omega
theorem q_3941 : (inrJ (4611686018427387904 : Int)) := by omega
theorem q_3942 {x0 x1 x2 : Int} (h0 : (((0 : Int) ≤ x0) ∧ ((x0 ≤ x1) ∧ ((x1 ≤ x2) ∧ (x2 ≤ (65536 : Int)))))) : (inr x1) := by omega
theorem q_3943 {x0 x1 x2 : Int} (h0 : (((0 : Int) ≤ x0) ∧ ((x0 ≤ x1) ∧ ((x1 ≤ x2) ∧ (x2 ≤ (65536 : Int)))))) : (inr x0) := by omega
theorem q_3944 {x0 x1 x2 : Int} (h0 : (x0 < x1)) (h1 : (((0 : Int) ≤ x0) ∧ ((x0 ≤ x1) ∧ ((x1 ≤ x2) ∧ (x2 ≤ (65536 : Int)))))) : (((0 : Int) ≤ x0) ∧ (x0 < x2)) := by omega
theorem q_3945 {x0 x1 : Int} (h0 : (x0 = ((x1 % (256 : Int)) / (8 : Int)))) : (((0 : Int) ≤ ((10 : Int) + x0)) ∧ (((10 : Int) + x0) ≤ (63 : Int))) := by omega
theorem q_3946 {x0 x1 : Int} (h0 : (x0 = ((x1 % (256 : Int)) / (8 : Int)))) : (((0 : Int) ≤ ((7 : Int) + x0)) ∧ (((7 : Int) + x0) ≤ (63 : Int))) := by omega
theorem q_3947 {x0 x1 x2 : Int} (h0 : (x0 < x1)) (h1 : (((0 : Int) ≤ x0) ∧ ((x0 ≤ x1) ∧ ((x1 ≤ x2) ∧ (x2 ≤ (65536 : Int)))))) : (((-(2147483648 : Int)) ≤ (x0 + (1 : Int))) ∧ ((x0 + (1 : Int)) ≤ (2147483647 : Int))) := by omega
theorem q_3948 {x0 x1 x2 : Int} (h0 : (x0 < x1)) (h1 : (((0 : Int) ≤ x0) ∧ ((x0 ≤ x1) ∧ ((x1 ≤ x2) ∧ (x2 ≤ (65536 : Int)))))) : (((0 : Int) ≤ (x0 + (1 : Int))) ∧ ((x0 ≤ (x0 + (1 : Int))) ∧ ((x0 + (1 : Int)) ≤ x1))) := by omega
theorem q_3949 : (((0 : Int) ≤ (0 : Int)) ∧ ((0 : Int) ≤ (17 : Int))) := by omega
theorem q_3950 {x0 x1 x2 : Int} (h0 : (((0 : Int) ≤ x0) ∧ ((x0 ≤ x1) ∧ ((x1 ≤ x2) ∧ (x2 ≤ (65536 : Int)))))) : (((0 : Int) ≤ x0) ∧ ((x0 ≤ x0) ∧ (x0 ≤ x1))) := by omega
theorem q_3951 {x0 : Int} (h0 : (x0 = (1 : Int))) : (((0 : Int) ≤ x0) ∧ (x0 ≤ (17 : Int))) := by omega
theorem q_3952 {x0 x1 x2 : Int} (h0 : (((0 : Int) ≤ x0) ∧ ((x0 ≤ x1) ∧ ((x1 ≤ x2) ∧ (x2 ≤ (65536 : Int)))))) : (inr (x1 - x0)) := by omega
theorem q_3953 {x0 x1 x2 x3 : Int} (h0 : (x0 ≤ (x1 - x2))) (h1 : (((0 : Int) ≤ x2) ∧ ((x2 ≤ x1) ∧ ((x1 ≤ x3) ∧ (x3 ≤ (65536 : Int)))))) : ((x0 ≤ (0 : Int)) ∨ (((0 : Int) ≤ x2) ∧ ((x2 + x0) ≤ x3))) := by omega
theorem q_3954 {x0 x1 x2 x3 : Int} (h0 : (x0 ≤ (x1 - x2))) (h1 : (inr x0)) (h2 : (((0 : Int) ≤ x2) ∧ ((x2 ≤ x1) ∧ ((x1 ≤ x3) ∧ (x3 ≤ (65536 : Int)))))) : (((-(2147483648 : Int)) ≤ (x2 + x0)) ∧ ((x2 + x0) ≤ (2147483647 : Int))) := by omega
theorem q_3955 {x0 x1 x2 x3 x4 : Int} (h0 : (x0 ≤ (x1 - x2))) (h1 : (((0 : Int) ≤ x3) → (((0 : Int) ≤ x0) ∧ (x0 ≤ x3)))) (h2 : (((0 : Int) ≤ x2) ∧ ((x2 ≤ x1) ∧ ((x1 ≤ x4) ∧ (x4 ≤ (65536 : Int)))))) (h3 : (((0 : Int) ≤ x3) ∧ (x3 ≤ (255 : Int)))) : (((0 : Int) ≤ (x2 + x0)) ∧ ((x2 ≤ (x2 + x0)) ∧ ((x2 + x0) ≤ x1))) := by omega
theorem q_3956 {x0 : Int} (h0 : (x0 = (4 : Int))) : (((0 : Int) ≤ x0) ∧ (x0 ≤ (17 : Int))) := by omega
theorem q_3957 {x0 x1 x2 : Int} (h0 : ((4 : Int) ≤ (x0 - x1))) (h1 : (((0 : Int) ≤ x1) ∧ ((x1 ≤ x0) ∧ ((x0 ≤ x2) ∧ (x2 ≤ (65536 : Int)))))) : (((4 : Int) ≤ (0 : Int)) ∨ (((0 : Int) ≤ x1) ∧ ((x1 + (4 : Int)) ≤ x2))) := by omega
theorem q_3958 {x0 x1 x2 : Int} (h0 : ((4 : Int) ≤ (x0 - x1))) (h1 : (((0 : Int) ≤ x1) ∧ ((x1 ≤ x0) ∧ ((x0 ≤ x2) ∧ (x2 ≤ (65536 : Int)))))) : (inr x1) := by omega
theorem q_3959 {x0 x1 x2 : Int} (h0 : ((4 : Int) ≤ (x0 - x1))) (h1 : (((0 : Int) ≤ x1) ∧ ((x1 ≤ x0) ∧ ((x0 ≤ x2) ∧ (x2 ≤ (65536 : Int)))))) : (((-(2147483648 : Int)) ≤ (x1 + (4 : Int))) ∧ ((x1 + (4 : Int)) ≤ (2147483647 : Int))) := by omega
theorem q_3960 {x0 x1 x2 : Int} (h0 : ((4 : Int) ≤ (x0 - x1))) (h1 : (((0 : Int) ≤ x1) ∧ ((x1 ≤ x0) ∧ ((x0 ≤ x2) ∧ (x2 ≤ (65536 : Int)))))) : (((0 : Int) ≤ (x1 + (4 : Int))) ∧ ((x1 ≤ (x1 + (4 : Int))) ∧ ((x1 + (4 : Int)) ≤ x0))) := by omega
theorem q_3961 {x0 x1 x2 x3 : Int} (h0 : (((0 : Int) ≤ x0) ∧ ((x0 + x1) ≤ x2))) (h1 : (x3 = x1)) : ((x3 ≤ (0 : Int)) ∨ (((0 : Int) ≤ x0) ∧ ((x0 + x3) ≤ x2))) := by omega
theorem q_3962 {x0 x1 x2 : Int} (h0 : (((0 : Int) ≤ x0) ∧ ((x0 + x1) ≤ x2))) (h1 : (((-(2147483648 : Int)) ≤ x0) ∧ (x0 ≤ (2147483647 : Int)))) : (inr x0) := by omega
theorem q_3963 {x0 x1 x2 x3 : Int} (h0 : (x0 ≤ (x1 - x2))) (h1 : (((0 : Int) ≤ x2) ∧ ((x2 ≤ x1) ∧ ((x1 ≤ x3) ∧ (x3 ≤ (65536 : Int)))))) (h2 : (((0 : Int) ≤ x0) ∧ (x0 ≤ (8 : Int)))) : (((-(2147483648 : Int)) ≤ (x2 + x0)) ∧ ((x2 + x0) ≤ (2147483647 : Int))) := by omega
theorem q_3964 {x0 x1 x2 x3 x4 : Int} (h0 : (x0 ≤ (x1 - x2))) (h1 : (((0 : Int) ≤ x2) ∧ ((x2 ≤ x1) ∧ ((x1 ≤ x3) ∧ (x3 ≤ (65536 : Int)))))) (h2 : (x0 = x4)) : (((0 : Int) ≠ (0 : Int)) ∨ (((0 : Int) ≤ x2) ∧ ((x2 + x4) ≤ x3))) := by omega
theorem q_3965 {x0 x1 x2 x3 : Int} (h0 : (x0 ≤ (x1 - x2))) (h1 : (((0 : Int) ≤ x2) ∧ ((x2 ≤ x1) ∧ ((x1 ≤ x3) ∧ (x3 ≤ (65536 : Int)))))) (h2 : (((0 : Int) ≤ x0) ∧ (x0 ≤ (8 : Int)))) : (((0 : Int) ≤ (x2 + x0)) ∧ ((x2 ≤ (x2 + x0)) ∧ ((x2 + x0) ≤ x1))) := by omega
theorem q_3966 {x0 x1 x2 : Int} (h0 : (((0 : Int) ≤ x0) ∧ ((x0 ≤ x1) ∧ ((x1 ≤ x2) ∧ (x2 ≤ (65536 : Int)))))) : (x2 ≤ (65536 : Int)) := by omega
theorem q_3967 {x0 x1 x2 x3 x4 : Int} (h0 : (x0 ≤ (x1 - x2))) (h1 : (((0 : Int) ≤ x2) ∧ ((x2 ≤ x1) ∧ ((x1 ≤ x3) ∧ (x3 ≤ (65536 : Int)))))) (h2 : (x0 = x4)) : (((0 : Int) ≤ x2) ∧ ((x2 + x4) ≤ x3)) := by omega
theorem q_3968 {x0 x1 x2 x3 : Int} (h0 : (x0 = (1 : Int))) : ((x0 ≠ (0 : Int)) ∨ (((0 : Int) ≤ x1) ∧ ((x1 + x2) ≤ x3))) := by omega
theorem q_3969 {x0 : Int} (h0 : (x0 = x0)) : (((0 : Int) ≠ (0 : Int)) ∨ (x0 = x0)) := by omega
theorem q_3970 {x0 x1 x2 x3 : Int} (h0 : (((0 : Int) ≤ x0) ∧ ((x0 ≤ x1) ∧ ((x1 ≤ x2) ∧ (x2 ≤ (65536 : Int)))))) (h1 : (x3 ≤ x0)) : (((0 : Int) ≤ x0) ∧ ((x3 ≤ x0) ∧ (x0 ≤ x1))) := by omega
theorem q_3971 {x0 : Int} (h0 : (x0 = (9 : Int))) : (((0 : Int) ≤ x0) ∧ (x0 ≤ (17 : Int))) := by omega
theorem q_3972 {x0 x1 x2 : Int} (h0 : ((4 : Int) ≤ (x0 - x1))) (h1 : (((0 : Int) ≤ x1) ∧ ((x1 ≤ x0) ∧ ((x0 ≤ x2) ∧ (x2 ≤ (65536 : Int)))))) : (((0 : Int) ≤ x1) ∧ ((x1 + (4 : Int)) ≤ x2)) := by omega
theorem q_3973 {x0 : Int} : (x0 ≤ (x0 + (4 : Int))) := by omega
theorem q_3974 {x0 x1 x2 : Int} (h0 : ((4 : Int) ≤ (x0 - x1))) (h1 : (((0 : Int) ≤ x1) ∧ ((x1 ≤ x0) ∧ ((x0 ≤ x2) ∧ (x2 ≤ (65536 : Int)))))) : (((0 : Int) ≤ (x1 + (4 : Int))) ∧ (((x1 + (4 : Int)) ≤ x0) ∧ ((x0 ≤ x2) ∧ (x2 ≤ (65536 : Int))))) := by omega
theorem q_3975 {x0 : Int} (h0 : (x0 = (8 : Int))) : (((0 : Int) ≤ x0) ∧ (x0 ≤ (17 : Int))) := by omega
theorem q_3976 {x0 : Int} (h0 : (x0 = (5 : Int))) (h1 : (((0 : Int) ≤ x0) ∧ (x0 ≤ (1000000 : Int)))) : (((0 : Int) ≤ (1 : Int)) ∧ ((1 : Int) < x0)) := by omega
theorem q_3977 {x0 x1 x2 x3 x4 : Int} (h0 : ((3 : Int) ≤ (x0 - x1))) (h1 : (x2 = x3)) (h2 : (((0 : Int) ≤ x1) ∧ ((x1 ≤ x0) ∧ ((x0 ≤ x4) ∧ (x4 ≤ (65536 : Int)))))) (h3 : (((0 : Int) ≤ x2) ∧ (x2 ≤ x1))) (h4 : (inr x3)) : (inr (x3 + (1 : Int))) := by omega
theorem q_3978 {x0 x1 x2 : Int} (h0 : ((3 : Int) ≤ (x0 - x1))) (h1 : (((0 : Int) ≤ x1) ∧ ((x1 ≤ x0) ∧ ((x0 ≤ x2) ∧ (x2 ≤ (65536 : Int)))))) : (((3 : Int) ≤ (0 : Int)) ∨ (((0 : Int) ≤ x1) ∧ ((x1 + (3 : Int)) ≤ x2))) := by omega
theorem q_3979 {x0 x1 x2 : Int} (h0 : ((3 : Int) ≤ (x0 - x1))) (h1 : (((0 : Int) ≤ x1) ∧ ((x1 ≤ x0) ∧ ((x0 ≤ x2) ∧ (x2 ≤ (65536 : Int)))))) : (inr x1) := by omega
theorem q_3980 {x0 x1 x2 : Int} (h0 : ((3 : Int) ≤ (x0 - x1))) (h1 : (((0 : Int) ≤ x1) ∧ ((x1 ≤ x0) ∧ ((x0 ≤ x2) ∧ (x2 ≤ (65536 : Int)))))) : (inr ((x0 - x1) - (3 : Int))) := by omega
theorem q_3981 {x0 x1 x2 : Int} (h0 : ((3 : Int) ≤ (x0 - x1))) (h1 : (((0 : Int) ≤ x1) ∧ ((x1 ≤ x0) ∧ ((x0 ≤ x2) ∧ (x2 ≤ (65536 : Int)))))) : (((-(2147483648 : Int)) ≤ (x1 + (3 : Int))) ∧ ((x1 + (3 : Int)) ≤ (2147483647 : Int))) := by omega
theorem q_3982 {x0 x1 x2 x3 : Int} (h0 : (x0 ≤ ((x1 - x2) - (3 : Int)))) (h1 : (((0 : Int) ≤ x2) ∧ ((x2 ≤ x1) ∧ ((x1 ≤ x3) ∧ (x3 ≤ (65536 : Int)))))) (h2 : (inr x0)) : (((-(2147483648 : Int)) ≤ ((x2 + (3 : Int)) + x0)) ∧ (((x2 + (3 : Int)) + x0) ≤ (2147483647 : Int))) := by omega
theorem q_3983 {x0 x1 x2 x3 : Int} (h0 : ((3 : Int) ≤ (x0 - x1))) (h1 : (x2 = (x3 + (1 : Int)))) : ((((3 : Int) ≤ (x0 - x1)) ∧ (x2 = (x3 + (1 : Int)))) ∨ (((x0 - x1) < (3 : Int)) ∧ (x2 = x3))) := by omega
theorem q_3984 {x0 x1 x2 : Int} : (((0 : Int) = (0 : Int)) ∨ ((((x0 + (3 : Int)) + x1) ≤ (0 : Int)) ∧ ((0 : Int) ≤ x2))) := by omega
theorem q_3985 {x0 x1 x2 : Int} (h0 : ((3 : Int) ≤ (x0 - x1))) (h1 : (((0 : Int) ≤ x1) ∧ ((x1 ≤ x0) ∧ ((x0 ≤ x2) ∧ (x2 ≤ (65536 : Int)))))) : (inr (x1 + (3 : Int))) := by omega
theorem q_3986 {x0 x1 x2 x3 x4 x5 : Int} (h0 : (x0 = (1 : Int))) (h1 : (((0 : Int) ≤ x1) ∧ ((x1 ≤ (65536 : Int)) ∧ (x2 ≤ x1)))) (h2 : ((x0 = (2 : Int)) ∨ (x3 ≤ (x1 - x2)))) (h3 : (((0 : Int) ≤ x4) ∧ ((x4 ≤ x5) ∧ (x5 ≤ (65536 : Int))))) (h4 : (((x4 = (x2 + x3)) ∧ ((0 : Int) ≤ x3)) ∨ ((x4 = x2) ∧ ((x3 < (0 : Int)) ∨ ((65536 : Int) < (x2 + x3)))))) : ((x2 ≤ x4) ∧ (x4 ≤ x1)) := by omega
theorem q_3987 {x0 x1 x2 x3 x4 : Int} (h0 : ((3 : Int) ≤ (x0 - x1))) (h1 : (x2 ≤ x3)) (h2 : (inr x2)) (h3 : (((0 : Int) ≤ x1) ∧ ((x1 ≤ x0) ∧ ((x0 ≤ x4) ∧ (x4 ≤ (65536 : Int)))))) (h4 : (((0 : Int) ≤ x3) ∧ (x3 ≤ (131072 : Int)))) : (((-(2147483648 : Int)) ≤ ((x1 + (3 : Int)) + x2)) ∧ (((x1 + (3 : Int)) + x2) ≤ (2147483647 : Int))) := by omega
theorem q_3988 {x0 x1 x2 : Int} (h0 : ((3 : Int) ≤ (x0 - x1))) (h1 : (((0 : Int) ≤ x1) ∧ ((x1 ≤ x0) ∧ ((x0 ≤ x2) ∧ (x2 ≤ (65536 : Int)))))) : (((0 : Int) ≤ (x1 + (3 : Int))) ∧ ((x1 ≤ (x1 + (3 : Int))) ∧ ((x1 + (3 : Int)) ≤ x0))) := by omega
theorem q_3989 {x0 x1 x2 x3 : Int} (h0 : (x0 = (2 : Int))) : ((x0 = (2 : Int)) ∨ (x1 ≤ (x2 - x3))) := by omega
theorem q_3990 {x0 x1 x2 x3 : Int} (h0 : (x0 ≤ (x1 - x2))) : ((x3 = (2 : Int)) ∨ (x0 ≤ (x1 - x2))) := by omega
theorem q_3991 {x0 x1 : Int} : (((0 : Int) = (0 : Int)) ∨ ((x0 ≤ (0 : Int)) ∧ ((0 : Int) ≤ x1))) := by omega
theorem q_3992 {x0 : Int} (h0 : (x0 = (7 : Int))) : (((0 : Int) ≤ x0) ∧ (x0 ≤ (17 : Int))) := by omega
theorem q_3993 {x0 x1 x2 : Int} (h0 : ((3 : Int) ≤ (x0 - x1))) (h1 : (((0 : Int) ≤ x1) ∧ ((x1 ≤ x0) ∧ ((x0 ≤ x2) ∧ (x2 ≤ (65536 : Int)))))) : (inr x0) := by omega
theorem q_3994 {x0 x1 : Int} (h0 : (x0 ≠ (1 : Int))) : (((x0 ≠ (1 : Int)) ∧ (x1 = x1)) ∨ ((x0 = (1 : Int)) ∧ (x1 = (1 : Int)))) := by omega
theorem q_3995 {x0 x1 : Int} (h0 : (x0 = (1 : Int))) : (((x0 ≠ (1 : Int)) ∧ ((1 : Int) = x1)) ∨ ((x0 = (1 : Int)) ∧ ((1 : Int) = (1 : Int)))) := by omega
theorem q_3996 {x0 : Int} (h0 : (x0 = (6 : Int))) : (((0 : Int) ≤ x0) ∧ (x0 ≤ (17 : Int))) := by omega
theorem q_3997 {x0 : Int} (h0 : (x0 = (5 : Int))) : (((0 : Int) ≤ x0) ∧ (x0 ≤ (17 : Int))) := by omega
theorem q_3998 {x0 x1 x2 : Int} (h0 : ((x0 - x1) < (3 : Int))) : ((((3 : Int) ≤ (x0 - x1)) ∧ (x2 = (x2 + (1 : Int)))) ∨ (((x0 - x1) < (3 : Int)) ∧ (x2 = x2))) := by omega
theorem q_3999 {x0 x1 x2 x3 : Int} (h0 : (x0 < x1)) (h1 : (((0 : Int) ≤ x0) ∧ ((x0 ≤ x2) ∧ ((x2 ≤ x3) ∧ (x3 ≤ (65536 : Int)))))) (h2 : ((x0 ≤ x1) ∧ (x1 ≤ x2))) : (((0 : Int) ≤ x0) ∧ (x0 < x3)) := by omega
theorem q_4000 {x0 x1 x2 : Int} (h0 : (x0 = ((x1 % (256 : Int)) / (4 : Int)))) (h1 : (((0 : Int) ≤ x0) → (((0 : Int) ≤ x2) ∧ (x2 ≤ x0)))) (h2 : (inr x2)) (h3 : (((x1 % (256 : Int)) % (4 : Int)) < (2 : Int))) : ((inr x2) ∧ ((0 : Int) ≤ x2)) := by omega
theorem q_4001 {x0 x1 x2 x3 : Int} (h0 : (x0 < x1)) (h1 : (((0 : Int) ≤ x0) ∧ ((x0 ≤ x2) ∧ ((x2 ≤ x3) ∧ (x3 ≤ (65536 : Int)))))) (h2 : ((x0 ≤ x1) ∧ (x1 ≤ x2))) : (inr (x1 - x0)) := by omega
theorem q_4002 {x0 x1 : Int} (h0 : ((((x0 % (2 : Int)) ≠ (0 : Int)) ∧ ((x0 ≠ (1 : Int)) ∧ (x1 = (3 : Int)))) ∨ ((((x0 % (2 : Int)) ≠ (0 : Int)) ∧ ((x0 = (1 : Int)) ∧ (x1 = (2 : Int)))) ∨ (((x0 % (2 : Int)) = (0 : Int)) ∧ (x1 = (1 : Int)))))) : (((0 : Int) ≤ x1) ∧ (x1 ≤ (8 : Int))) := by omega
theorem q_4003 {x0 x1 x2 x3 x4 : Int} (h0 : (x0 ≤ (x1 - x2))) (h1 : (((0 : Int) ≤ x2) ∧ ((x2 ≤ x3) ∧ ((x3 ≤ x4) ∧ (x4 ≤ (65536 : Int)))))) (h2 : ((x2 ≤ x1) ∧ (x1 ≤ x3))) : ((x0 ≤ (0 : Int)) ∨ (((0 : Int) ≤ x2) ∧ ((x2 + x0) ≤ x4))) := by omega
theorem q_4004 {x0 x1 : Int} (h0 : (((x0 ≠ (1 : Int)) ∧ (x1 = (4 : Int))) ∨ ((x0 = (1 : Int)) ∧ (x1 = (3 : Int))))) : (((0 : Int) ≤ x1) ∧ (x1 ≤ (63 : Int))) := by omega
theorem q_4005 {x0 : Int} (h0 : (((0 : Int) ≤ x0) ∧ (x0 ≤ (2097152 : Int)))) : (inr x0) := by omega
theorem q_4006 {x0 x1 x2 x3 x4 : Int} (h0 : (x0 ≤ (x1 - x2))) (h1 : (((0 : Int) ≤ x2) ∧ ((x2 ≤ x3) ∧ ((x3 ≤ x4) ∧ (x4 ≤ (65536 : Int)))))) (h2 : ((x2 ≤ x1) ∧ (x1 ≤ x3))) (h3 : (inr x0)) : (((-(2147483648 : Int)) ≤ (x2 + x0)) ∧ ((x2 + x0) ≤ (2147483647 : Int))) := by omega
theorem q_4007 {x0 x1 x2 x3 x4 x5 : Int} (h0 : (x0 ≤ (x1 - x2))) (h1 : (((0 : Int) ≤ x2) ∧ ((x2 ≤ x3) ∧ ((x3 ≤ x4) ∧ (x4 ≤ (65536 : Int)))))) (h2 : ((x2 ≤ x1) ∧ (x1 ≤ x3))) (h3 : ((((x5 % (2 : Int)) ≠ (0 : Int)) ∧ ((x5 ≠ (1 : Int)) ∧ (x0 = (3 : Int)))) ∨ ((((x5 % (2 : Int)) ≠ (0 : Int)) ∧ ((x5 = (1 : Int)) ∧ (x0 = (2 : Int)))) ∨ (((x5 % (2 : Int)) = (0 : Int)) ∧ (x0 = (1 : Int)))))) : (inr (x1 - (x2 + x0))) := by omega
theorem q_4008 {x0 : Int} (h0 : (((0 : Int) ≤ x0) ∧ (x0 ≤ (2097152 : Int)))) : (((-(2147483648 : Int)) ≤ x0) ∧ (x0 ≤ (2147483647 : Int))) := by omega
theorem q_4009 {x0 x1 x2 x3 x4 : Int} (h0 : ((1 : Int) ≤ (x0 - (x1 + x2)))) (h1 : (((0 : Int) ≤ x1) ∧ ((x1 ≤ x3) ∧ ((x3 ≤ x4) ∧ (x4 ≤ (65536 : Int)))))) (h2 : ((x1 ≤ x0) ∧ (x0 ≤ x3))) (h3 : (inr x2)) : (((-(2147483648 : Int)) ≤ ((x1 + x2) + (1 : Int))) ∧ (((x1 + x2) + (1 : Int)) ≤ (2147483647 : Int))) := by omega
theorem q_4010 {x0 x1 x2 : Int} (h0 : (x0 ≤ x1)) (h1 : (x1 = x2)) : (((0 : Int) ≠ (0 : Int)) ∨ (x0 ≤ x2)) := by omega
theorem q_4011 {x0 x1 x2 : Int} (h0 : (x0 ≤ x1)) (h1 : (((0 : Int) ≤ x0) ∧ (x0 ≤ (2097152 : Int)))) (h2 : ((x0 ≤ x2) ∨ (x2 = (65536 : Int)))) (h3 : (((0 : Int) ≤ x1) ∧ (x1 ≤ (131072 : Int)))) : (((0 : Int) ≠ (0 : Int)) ∨ (((0 : Int) ≤ x0) ∧ ((x0 ≤ (131072 : Int)) ∧ ((x0 ≤ x2) ∨ (x2 = (65536 : Int)))))) := by omega
theorem q_4012 {x0 x1 x2 : Int} (h0 : ((1 : Int) ≤ (x0 - (x1 + x2)))) : (((x1 + x2) + (1 : Int)) ≤ x0) := by omega
theorem q_4013 {x0 x1 x2 x3 x4 x5 : Int} (h0 : ((1 : Int) ≤ (x0 - (x1 + x2)))) (h1 : (((0 : Int) ≤ x1) ∧ ((x1 ≤ x3) ∧ ((x3 ≤ x4) ∧ (x4 ≤ (65536 : Int)))))) (h2 : ((x1 ≤ x0) ∧ (x0 ≤ x3))) (h3 : ((((x5 % (2 : Int)) ≠ (0 : Int)) ∧ ((x5 ≠ (1 : Int)) ∧ (x2 = (3 : Int)))) ∨ ((((x5 % (2 : Int)) ≠ (0 : Int)) ∧ ((x5 = (1 : Int)) ∧ (x2 = (2 : Int)))) ∨ (((x5 % (2 : Int)) = (0 : Int)) ∧ (x2 = (1 : Int)))))) : (((0 : Int) ≤ ((x1 + x2) + (1 : Int))) ∧ ((x1 ≤ ((x1 + x2) + (1 : Int))) ∧ (((x1 + x2) + (1 : Int)) ≤ x3))) := by omega
theorem q_4014 {x0 x1 x2 x3 x4 x5 : Int} (h0 : ((1 : Int) ≤ (x0 - (x1 + x2)))) (h1 : (((0 : Int) ≤ x1) ∧ ((x1 ≤ x3) ∧ ((x3 ≤ x4) ∧ (x4 ≤ (65536 : Int)))))) (h2 : ((x1 ≤ x0) ∧ (x0 ≤ x3))) (h3 : ((((x5 % (2 : Int)) ≠ (0 : Int)) ∧ ((x5 ≠ (1 : Int)) ∧ (x2 = (3 : Int)))) ∨ ((((x5 % (2 : Int)) ≠ (0 : Int)) ∧ ((x5 = (1 : Int)) ∧ (x2 = (2 : Int)))) ∨ (((x5 % (2 : Int)) = (0 : Int)) ∧ (x2 = (1 : Int)))))) : (((0 : Int) ≤ (x1 + x2)) ∧ ((x1 + x2) < x4)) := by omega
theorem q_4015 {x0 x1 : Int} (h0 : (((x0 = x1) ∧ (x1 ≤ (65536 : Int))) ∨ ((x0 = (65536 : Int)) ∧ ((65536 : Int) ≤ x1)))) (h1 : (((0 : Int) ≤ x1) ∧ (x1 ≤ (2097152 : Int)))) : (inr x0) := by omega
theorem q_4016 {x0 x1 x2 x3 x4 : Int} (h0 : ((1 : Int) ≤ (x0 - (x1 + x2)))) (h1 : (((0 : Int) ≤ x1) ∧ ((x1 ≤ x3) ∧ ((x3 ≤ x4) ∧ (x4 ≤ (65536 : Int)))))) (h2 : ((x1 ≤ x0) ∧ (x0 ≤ x3))) (h3 : (inr x2)) : (inr (x1 + x2)) := by omega
theorem q_4017 {x0 x1 x2 : Int} (h0 : (x0 = (10 : Int))) : ((x0 ≠ (0 : Int)) ∨ (x1 = x2)) := by omega
theorem q_4018 {x0 x1 x2 : Int} (h0 : (x0 = (10 : Int))) : ((x0 ≠ (0 : Int)) ∨ (x1 ≤ x2)) := by omega
theorem q_4019 {x0 x1 x2 : Int} (h0 : (x0 = (10 : Int))) : ((x0 ≠ (0 : Int)) ∨ (((0 : Int) ≤ x1) ∧ ((x1 ≤ (131072 : Int)) ∧ ((x1 ≤ x2) ∨ (x2 = (65536 : Int)))))) := by omega
theorem q_4020 {x0 x1 x2 : Int} (h0 : (x0 ≤ (x1 - x2))) : ((x2 + x0) ≤ x1) := by omega
theorem q_4021 {x0 x1 x2 x3 x4 : Int} (h0 : (x0 < x1)) (h1 : (x2 ≤ (x1 - x0))) (h2 : ((x1 - (x0 + x2)) < (1 : Int))) (h3 : (((0 : Int) ≤ x0) ∧ ((x0 ≤ x3) ∧ ((x3 ≤ x4) ∧ (x4 ≤ (65536 : Int)))))) (h4 : ((x0 ≤ x1) ∧ (x1 ≤ x3))) : (((0 : Int) ≤ (x0 + x2)) ∧ ((x0 ≤ (x0 + x2)) ∧ ((x0 + x2) ≤ x3))) := by omega
theorem q_4022 {x0 : Int} (h0 : (x0 = (10 : Int))) : (((0 : Int) ≤ x0) ∧ (x0 ≤ (17 : Int))) := by omega
theorem q_4023 {x0 x1 x2 x3 x4 x5 : Int} (h0 : (x0 ≤ (x1 - (x2 + x3)))) (h1 : (((0 : Int) ≤ x2) ∧ ((x2 ≤ x4) ∧ ((x4 ≤ x5) ∧ (x5 ≤ (65536 : Int)))))) (h2 : ((x2 ≤ x1) ∧ (x1 ≤ x4))) (h3 : (((0 : Int) ≤ x0) ∧ (x0 ≤ (2097152 : Int)))) (h4 : (inr x3)) : (((-(2147483648 : Int)) ≤ ((x2 + x3) + x0)) ∧ (((x2 + x3) + x0) ≤ (2147483647 : Int))) := by omega
theorem q_4024 {x0 x1 x2 x3 : Int} (h0 : (x0 ≤ (x1 - (x2 + x3)))) : (((x2 + x3) + x0) ≤ x1) := by omega
theorem q_4025 {x0 x1 x2 x3 x4 x5 x6 : Int} (h0 : (x0 ≤ (x1 - (x2 + x3)))) (h1 : (((0 : Int) ≤ x2) ∧ ((x2 ≤ x4) ∧ ((x4 ≤ x5) ∧ (x5 ≤ (65536 : Int)))))) (h2 : ((x2 ≤ x1) ∧ (x1 ≤ x4))) (h3 : (((0 : Int) ≤ x0) ∧ (x0 ≤ (2097152 : Int)))) (h4 : ((((x6 % (2 : Int)) ≠ (0 : Int)) ∧ ((x6 ≠ (1 : Int)) ∧ (x3 = (3 : Int)))) ∨ ((((x6 % (2 : Int)) ≠ (0 : Int)) ∧ ((x6 = (1 : Int)) ∧ (x3 = (2 : Int)))) ∨ (((x6 % (2 : Int)) = (0 : Int)) ∧ (x3 = (1 : Int)))))) : (((0 : Int) ≤ ((x2 + x3) + x0)) ∧ ((x2 ≤ ((x2 + x3) + x0)) ∧ (((x2 + x3) + x0) ≤ x4))) := by omega
theorem q_4026 {x0 x1 x2 x3 x4 x5 x6 : Int} (h0 : (x0 ≤ (x1 - (x2 + x3)))) (h1 : (((0 : Int) ≤ x2) ∧ ((x2 ≤ x4) ∧ ((x4 ≤ x5) ∧ (x5 ≤ (65536 : Int)))))) (h2 : ((x2 ≤ x1) ∧ (x1 ≤ x4))) (h3 : ((((x6 % (2 : Int)) ≠ (0 : Int)) ∧ ((x6 ≠ (1 : Int)) ∧ (x3 = (3 : Int)))) ∨ ((((x6 % (2 : Int)) ≠ (0 : Int)) ∧ ((x6 = (1 : Int)) ∧ (x3 = (2 : Int)))) ∨ (((x6 % (2 : Int)) = (0 : Int)) ∧ (x3 = (1 : Int)))))) : ((x0 < (0 : Int)) ∨ (((0 : Int) ≤ (x2 + x3)) ∧ (((x2 + x3) + x0) ≤ x5))) := by omega
theorem q_4027 {x0 x1 x2 x3 x4 : Int} (h0 : (x0 ≤ (x1 - x2))) (h1 : (((0 : Int) ≤ x2) ∧ ((x2 ≤ x3) ∧ ((x3 ≤ x4) ∧ (x4 ≤ (65536 : Int)))))) (h2 : ((x2 ≤ x1) ∧ (x1 ≤ x3))) (h3 : (inr x0)) : (inr (x2 + x0)) := by omega
theorem q_4028 {x0 x1 x2 x3 x4 x5 : Int} (h0 : (x0 ≤ (x1 - x2))) (h1 : (((0 : Int) ≤ x2) ∧ ((x2 ≤ x3) ∧ ((x3 ≤ x4) ∧ (x4 ≤ (65536 : Int)))))) (h2 : ((x2 ≤ x1) ∧ (x1 ≤ x3))) (h3 : ((((x5 % (2 : Int)) ≠ (0 : Int)) ∧ ((x5 ≠ (1 : Int)) ∧ (x0 = (3 : Int)))) ∨ ((((x5 % (2 : Int)) ≠ (0 : Int)) ∧ ((x5 = (1 : Int)) ∧ (x0 = (2 : Int)))) ∨ (((x5 % (2 : Int)) = (0 : Int)) ∧ (x0 = (1 : Int)))))) : (((0 : Int) ≤ (x2 + x0)) ∧ ((x2 ≤ (x2 + x0)) ∧ ((x2 + x0) ≤ x3))) := by omega
theorem q_4029 {x0 x1 x2 : Int} (h0 : (x0 = (11 : Int))) : ((x0 ≠ (0 : Int)) ∨ (x1 = x2)) := by omega
theorem q_4030 {x0 x1 x2 : Int} (h0 : (x0 = (11 : Int))) : ((x0 ≠ (0 : Int)) ∨ (x1 ≤ x2)) := by omega
theorem q_4031 {x0 x1 x2 : Int} (h0 : (x0 = (11 : Int))) : ((x0 ≠ (0 : Int)) ∨ (((0 : Int) ≤ x1) ∧ ((x1 ≤ (131072 : Int)) ∧ ((x1 ≤ x2) ∨ (x2 = (65536 : Int)))))) := by omega
theorem q_4032 {x0 : Int} (h0 : (x0 = (11 : Int))) : (((0 : Int) ≤ x0) ∧ (x0 ≤ (17 : Int))) := by omega
theorem q_4033 {x0 : Int} (h0 : (x0 ≠ (1 : Int))) : (((x0 ≠ (1 : Int)) ∧ ((4 : Int) = (4 : Int))) ∨ ((x0 = (1 : Int)) ∧ ((4 : Int) = (3 : Int)))) := by omega
theorem q_4034 {x0 : Int} (h0 : (x0 = (1 : Int))) : (((x0 ≠ (1 : Int)) ∧ ((3 : Int) = (4 : Int))) ∨ ((x0 = (1 : Int)) ∧ ((3 : Int) = (3 : Int)))) := by omega
theorem q_4035 {x0 : Int} (h0 : ((x0 % (2 : Int)) ≠ (0 : Int))) (h1 : (x0 ≠ (1 : Int))) : ((((x0 % (2 : Int)) ≠ (0 : Int)) ∧ ((x0 ≠ (1 : Int)) ∧ ((3 : Int) = (3 : Int)))) ∨ ((((x0 % (2 : Int)) ≠ (0 : Int)) ∧ ((x0 = (1 : Int)) ∧ ((3 : Int) = (2 : Int)))) ∨ (((x0 % (2 : Int)) = (0 : Int)) ∧ ((3 : Int) = (1 : Int))))) := by omega
theorem q_4036 {x0 : Int} (h0 : ((x0 % (2 : Int)) ≠ (0 : Int))) (h1 : (x0 = (1 : Int))) : ((((x0 % (2 : Int)) ≠ (0 : Int)) ∧ ((x0 ≠ (1 : Int)) ∧ ((2 : Int) = (3 : Int)))) ∨ ((((x0 % (2 : Int)) ≠ (0 : Int)) ∧ ((x0 = (1 : Int)) ∧ ((2 : Int) = (2 : Int)))) ∨ (((x0 % (2 : Int)) = (0 : Int)) ∧ ((2 : Int) = (1 : Int))))) := by omega
theorem q_4037 {x0 : Int} (h0 : ((x0 % (2 : Int)) = (0 : Int))) : ((((x0 % (2 : Int)) ≠ (0 : Int)) ∧ ((x0 ≠ (1 : Int)) ∧ ((1 : Int) = (3 : Int)))) ∨ ((((x0 % (2 : Int)) ≠ (0 : Int)) ∧ ((x0 = (1 : Int)) ∧ ((1 : Int) = (2 : Int)))) ∨ (((x0 % (2 : Int)) = (0 : Int)) ∧ ((1 : Int) = (1 : Int))))) := by omega
theorem q_4038 {x0 x1 x2 x3 : Int} (h0 : (((0 : Int) ≤ x0) ∧ ((x0 ≤ (65536 : Int)) ∧ (x1 ≤ x0)))) (h1 : (((0 : Int) ≤ x2) ∧ (x2 ≤ (1000000 : Int)))) (h2 : (((0 : Int) ≤ x3) ∧ (x3 ≤ x1))) : (inr ((x1 - x3) + x2)) := by omega
theorem q_4039 {x0 x1 x2 : Int} (h0 : (x0 ≤ (x1 - x2))) : (((0 : Int) ≠ (0 : Int)) ∨ ((x2 + x0) ≤ x1)) := by omega
theorem q_4040 {x0 x1 x2 : Int} : (((7 : Int) ≠ (0 : Int)) ∨ ((x0 + x1) ≤ x2)) := by omega
theorem q_4041 {x0 x1 x2 : Int} : (((20 : Int) ≠ (0 : Int)) ∨ ((x0 + x1) ≤ x2)) := by omega
theorem q_4042 {x0 x1 : Int} (h0 : (((0 : Int) ≤ x0) ∧ ((x0 ≤ (200000 : Int)) ∧ (((0 : Int) ≤ x1) ∧ (x1 ≤ (200000 : Int)))))) : (inr (x1 - x0)) := by omega
theorem q_4043 {x0 x1 x2 x3 : Int} (h0 : (((0 : Int) ≤ x0) ∧ ((x0 ≤ (65536 : Int)) ∧ (x1 ≤ x0)))) (h1 : (((0 : Int) ≤ x2) ∧ (x2 ≤ x1))) (h2 : (((0 : Int) ≤ x3) ∧ (x3 ≤ (300000 : Int)))) : (inr ((x1 - x2) + x3)) := by omega
theorem q_4044 {x0 x1 x2 x3 : Int} (h0 : (((0 : Int) ≤ x0) ∧ ((x0 ≤ (65536 : Int)) ∧ (x1 ≤ x0)))) (h1 : (((0 : Int) ≤ x2) ∧ (x2 ≤ x1))) (h2 : (((0 : Int) ≤ x3) ∧ (x3 ≤ (300000 : Int)))) : (inrJ ((x1 - x2) + x3)) := by omega
theorem q_4045 {x0 x1 : Int} (h0 : (((0 : Int) ≤ x0) ∧ (x0 ≤ (300000 : Int)))) (h1 : (((0 : Int) ≤ x1) ∧ (x1 ≤ (300000 : Int)))) : (((0 : Int) ≤ (x1 + x0)) ∧ ((x1 + x0) ≤ (1000000 : Int))) := by omega
theorem q_4046 {x0 x1 : Int} (h0 : (((0 : Int) ≤ x0) ∧ (x0 ≤ (300000 : Int)))) (h1 : (((0 : Int) ≤ x1) ∧ (x1 ≤ (300000 : Int)))) : (inr (x1 + x0)) := by omega
theorem q_4047 {x0 x1 x2 x3 x4 x5 x6 x7 x8 : Int} : (((18 : Int) ≠ (0 : Int)) ∨ ((((x0 + x1) + x2) ≤ x3) ∧ (((x4 + x1) ≤ x5) ∧ (((1 : Int) ≤ x6) ∧ (x6 ≤ (((x0 - x7) + x1) + x8)))))) := by omega
theorem q_4048 {x0 x1 x2 x3 x4 x5 : Int} (h0 : (((0 : Int) ≤ x0) ∧ ((x0 ≤ x1) ∧ (x1 ≤ (65536 : Int))))) (h1 : (((0 : Int) ≤ x2) ∧ ((x2 ≤ (65536 : Int)) ∧ (x3 ≤ x2)))) (h2 : (((0 : Int) ≤ x4) ∧ (x4 ≤ x3))) (h3 : (((0 : Int) ≤ x5) ∧ (x5 ≤ (300000 : Int)))) : (inrJ (((x3 - x4) + x5) + x0)) := by omega
theorem q_4049 {x0 x1 x2 x3 x4 x5 x6 x7 x8 : Int} : (((19 : Int) ≠ (0 : Int)) ∨ ((((x0 + x1) + x2) ≤ x3) ∧ (((x4 + x1) ≤ x5) ∧ (((1 : Int) ≤ x6) ∧ (x6 ≤ (((x0 - x7) + x1) + x8)))))) := by omega
theorem q_4050 {x0 x1 x2 : Int} (h0 : (x0 = x1)) (h1 : (((0 : Int) ≤ x0) ∧ (x0 < x2))) : (((0 : Int) ≤ x1) ∧ (x1 < x2)) := by omega
theorem q_4051 {x0 x1 x2 : Int} (h0 : (((0 : Int) ≤ x0) ∧ ((x0 ≤ (65536 : Int)) ∧ (((0 : Int) ≤ x1) ∧ ((x1 ≤ ((8 : Int) * (x2 - x0))) ∧ (x2 ≤ (65536 : Int))))))) : ((-(100 : Int)) ≤ x1) := by omega
theorem q_4052 {x0 x1 x2 : Int} (h0 : (((0 : Int) ≤ x0) ∧ ((x0 ≤ (65536 : Int)) ∧ (((0 : Int) ≤ x1) ∧ ((x1 ≤ ((8 : Int) * (x2 - x0))) ∧ (x2 ≤ (65536 : Int))))))) : (((0 : Int) ≤ x0) ∧ ((x0 ≤ (65536 : Int)) ∧ ((x1 ≤ ((8 : Int) * (x2 - x0))) ∧ (x2 ≤ (65536 : Int))))) := by omega
theorem q_4053 : (((0 : Int) ≤ (0 : Int)) ∧ ((0 : Int) ≤ ((9 : Int) * (0 : Int)))) := by omega
theorem q_4054 {x0 x1 : Int} (h0 : (x0 = (3 : Int))) (h1 : (((0 : Int) ≤ x1) ∧ (x1 ≤ ((9 : Int) * x0)))) : (((0 : Int) ≤ x1) ∧ (x1 ≤ (27 : Int))) := by omega
theorem q_4055 {x0 x1 x2 : Int} (h0 : (((0 : Int) ≤ x0) ∧ (x0 ≤ ((9 : Int) * x1)))) (h1 : (((0 : Int) ≤ x2) ∧ (x2 ≤ (9 : Int)))) : (((0 : Int) ≤ (x0 + x2)) ∧ ((x0 + x2) ≤ ((9 : Int) * (x1 + (1 : Int))))) := by omega
theorem q_4056 {x0 x1 : Int} (h0 : (((0 : Int) ≤ x0) ∧ (x0 ≤ ((9 : Int) * x1)))) : ((0 : Int) ≤ (x1 + (1 : Int))) := by omega
theorem q_4057 {x0 x1 : Int} (h0 : (x0 < (3 : Int))) (h1 : (((0 : Int) ≤ x1) ∧ (x1 ≤ ((9 : Int) * x0)))) : (inr (x0 + (1 : Int))) := by omega
theorem q_4058 {x0 x1 x2 : Int} (h0 : (x0 < (3 : Int))) (h1 : (((0 : Int) ≤ x1) ∧ (x1 ≤ ((9 : Int) * x0)))) (h2 : (((0 : Int) ≤ x2) ∧ (x2 ≤ (9 : Int)))) : (inr (x1 + x2)) := by omega
theorem q_4059 {x0 x1 x2 : Int} (h0 : (x0 = (0 : Int))) (h1 : ((x1 = (3 : Int)) ∧ (x2 = (3 : Int)))) (h2 : ((0 : Int) ≤ x0)) (h3 : (((0 : Int) ≤ x2) ∧ (x2 ≤ (1000000 : Int)))) : (((0 : Int) ≤ x0) ∧ (x0 < x2)) := by omega
theorem q_4060 {x0 x1 x2 : Int} (h0 : (x0 = (0 : Int))) (h1 : ((x1 = (3 : Int)) ∧ (x2 = (3 : Int)))) (h2 : ((0 : Int) ≤ x0)) (h3 : (((0 : Int) ≤ x1) ∧ (x1 ≤ (1000000 : Int)))) : (((0 : Int) ≤ x0) ∧ (x0 < x1)) := by omega
theorem q_4061 {x0 x1 x2 x3 : Int} (h0 : (x0 = (0 : Int))) (h1 : (((0 : Int) ≤ x1) ∧ (x1 < x2))) (h2 : ((x0 = (0 : Int)) → (x1 = x3))) : (((0 : Int) ≤ x3) ∧ (x3 < x2)) := by omega
theorem q_4062 {x0 x1 : Int} (h0 : (((0 : Int) ≤ x0) ∧ (x0 ≤ (9 : Int)))) (h1 : (((0 : Int) ≤ x1) ∧ (x1 ≤ x0))) : (((0 : Int) ≤ x1) ∧ (x1 ≤ (9 : Int))) := by omega
theorem q_4063 {x0 x1 x2 : Int} (h0 : (x0 = (1 : Int))) (h1 : ((x1 = (3 : Int)) ∧ (x2 = (3 : Int)))) (h2 : ((0 : Int) ≤ x0)) (h3 : (((0 : Int) ≤ x2) ∧ (x2 ≤ (1000000 : Int)))) : (((0 : Int) ≤ x0) ∧ (x0 < x2)) := by omega
theorem q_4064 {x0 x1 x2 : Int} (h0 : (x0 = (1 : Int))) (h1 : ((x1 = (3 : Int)) ∧ (x2 = (3 : Int)))) (h2 : ((0 : Int) ≤ x0)) (h3 : (((0 : Int) ≤ x1) ∧ (x1 ≤ (1000000 : Int)))) : (((0 : Int) ≤ x0) ∧ (x0 < x1)) := by omega
theorem q_4065 {x0 x1 x2 x3 : Int} (h0 : (x0 = (1 : Int))) (h1 : (((0 : Int) ≤ x1) ∧ (x1 < x2))) (h2 : ((x0 = (1 : Int)) → (x1 = x3))) : (((0 : Int) ≤ x3) ∧ (x3 < x2)) := by omega
theorem q_4066 {x0 x1 x2 : Int} (h0 : (x0 = (2 : Int))) (h1 : ((x1 = (3 : Int)) ∧ (x2 = (3 : Int)))) (h2 : ((0 : Int) ≤ x0)) : (((0 : Int) ≤ x0) ∧ (x0 < x2)) := by omega
theorem q_4067 {x0 x1 x2 : Int} (h0 : (x0 = (2 : Int))) (h1 : ((x1 = (3 : Int)) ∧ (x2 = (3 : Int)))) (h2 : ((0 : Int) ≤ x0)) : (((0 : Int) ≤ x0) ∧ (x0 < x1)) := by omega
theorem q_4068 {x0 x1 x2 x3 : Int} (h0 : (x0 = (2 : Int))) (h1 : (((0 : Int) ≤ x1) ∧ (x1 < x2))) (h2 : ((x0 = (2 : Int)) → (x1 = x3))) : (((0 : Int) ≤ x3) ∧ (x3 < x2)) := by omega
theorem q_4069 {x0 x1 x2 x3 : Int} (h0 : (((0 : Int) ≤ x0) ∧ ((x0 ≤ x1) ∧ ((x1 ≤ x2) ∧ (x2 ≤ (65536 : Int)))))) (h1 : ((x0 ≤ x3) ∧ (x3 ≤ x1))) : (((0 : Int) ≤ x0) ∧ ((x3 ≤ x2) ∧ ((x2 ≤ (65536 : Int)) ∧ (((0 : Int) ≤ x3) ∧ (x0 ≤ (200000 : Int)))))) := by omega
theorem q_4070 {x0 x1 x2 x3 x4 x5 x6 : Int} (h0 : (((0 : Int) ≤ x0) ∧ ((x0 ≤ x1) ∧ ((x1 ≤ x2) ∧ (x2 ≤ (65536 : Int)))))) (h1 : ((x0 ≤ x3) ∧ (x3 ≤ x1))) (h2 : (x4 = x0)) (h3 : (((x5 = (0 : Int)) ∧ (x6 = (0 : Int))) ∨ ((x5 = (1 : Int)) ∧ (((0 : Int) ≤ x6) ∧ (x6 < ((8 : Int) * (x3 - x0))))))) : (((0 : Int) ≤ x6) ∧ (x6 ≤ ((8 : Int) * (x2 - x4)))) := by omega
theorem q_4071 {x0 x1 x2 : Int} (h0 : (x0 = (17 : Int))) : ((x0 ≠ (0 : Int)) ∨ (x1 = x2)) := by omega
theorem q_4072 {x0 x1 x2 : Int} (h0 : (x0 = (17 : Int))) : ((x0 ≠ (0 : Int)) ∨ (x1 = (x1 + x2))) := by omega
theorem q_4073 {x0 x1 x2 : Int} (h0 : (x0 = x1)) : ((x2 = (0 : Int)) ∨ (x0 = x1)) := by omega
theorem q_4074 {x0 x1 x2 x3 x4 : Int} (h0 : (x0 = (17 : Int))) : ((x0 ≠ (0 : Int)) ∨ (((0 : Int) ≤ x1) ∧ ((x1 ≤ (x2 - x3)) ∧ (x1 ≤ x4)))) := by omega
theorem q_4075 {x0 : Int} (h0 : (x0 = (17 : Int))) : (((0 : Int) ≤ x0) ∧ (x0 ≤ (20 : Int))) := by omega
theorem q_4076 {x0 x1 x2 x3 x4 : Int} (h0 : (((0 : Int) ≤ x0) ∧ ((x0 ≤ (131072 : Int)) ∧ ((x0 ≤ x1) ∨ (x1 = (65536 : Int)))))) (h1 : (x2 = (0 : Int))) (h2 : (x3 = x4)) : (((0 : Int) ≤ x2) ∧ ((x2 ≤ (x4 - x3)) ∧ (x2 ≤ x0))) := by omega
theorem q_4077 {x0 x1 x2 x3 : Int} (h0 : (x0 ≤ x1)) (h1 : (((1 : Int) ≤ x0) ∧ (x0 ≤ (200000 : Int)))) (h2 : (x2 = (x3 + x1))) (h3 : ((x1 ≤ (0 : Int)) ∨ (x1 ≤ x0))) : (((0 : Int) ≠ (0 : Int)) ∨ (x2 = (x3 + x0))) := by omega
theorem q_4078 {x0 x1 x2 x3 : Int} (h0 : (((0 : Int) ≤ x0) ∧ ((x0 ≤ (x1 - x2)) ∧ (x0 ≤ x3)))) : (((0 : Int) ≠ (0 : Int)) ∨ (((0 : Int) ≤ x0) ∧ ((x0 ≤ (x1 - x2)) ∧ (x0 ≤ x3)))) := by omega
theorem q_4079 {x0 x1 x2 : Int} (h0 : (((0 : Int) ≤ x0) ∧ ((x0 ≤ (65536 : Int)) ∧ (x1 ≤ x0)))) (h1 : (x2 ≤ x1)) : ((x2 ≤ x1) ∧ (x1 ≤ x0)) := by omega
theorem q_4080 {x0 x1 x2 x3 : Int} (h0 : (x0 = (17 : Int))) : ((x0 ≠ (0 : Int)) ∨ (x1 = (x2 + x3))) := by omega
theorem q_4081 {x0 x1 : Int} (h0 : (x0 ≤ (53 : Int))) (h1 : (((0 : Int) ≤ x1) ∧ (x1 < x0))) : (((0 : Int) ≤ x1) ∧ (x1 < (53 : Int))) := by omega
theorem q_4082 {x0 x1 : Int} (h0 : (x0 ≤ (36 : Int))) (h1 : (((0 : Int) ≤ x1) ∧ (x1 < x0))) : (((0 : Int) ≤ x1) ∧ (x1 < (36 : Int))) := by omega
theorem q_4083 {x0 x1 : Int} (h0 : (x0 ≤ (32 : Int))) (h1 : (((0 : Int) ≤ x1) ∧ (x1 < x0))) : (((0 : Int) ≤ x1) ∧ (x1 ≤ (63 : Int))) := by omega
theorem q_4084 {x0 x1 x2 x3 x4 : Int} (h0 : (((0 : Int) ≤ x0) ∧ ((x0 ≤ x1) ∧ ((x1 ≤ x2) ∧ (x2 ≤ (65536 : Int)))))) (h1 : (((0 : Int) ≤ x3) ∧ (x3 ≤ ((8 : Int) * (x2 - x4))))) (h2 : (x4 = x0)) : (((0 : Int) ≤ x4) ∧ ((x4 ≤ (65536 : Int)) ∧ ((x3 ≤ ((8 : Int) * (x2 - x4))) ∧ (x2 ≤ (65536 : Int))))) := by omega
theorem q_4085 {x0 x1 : Int} (h0 : (x0 ≤ (32 : Int))) (h1 : (((0 : Int) ≤ x1) ∧ (x1 < x0))) : (((0 : Int) ≤ x1) ∧ (x1 ≤ (31 : Int))) := by omega
theorem q_4086 {x0 x1 x2 x3 x4 x5 : Int} (h0 : (x0 ≤ (32 : Int))) (h1 : (((0 : Int) ≤ x1) ∧ (x1 ≤ ((8 : Int) * (x2 - x3))))) (h2 : (((0 : Int) ≤ x4) ∧ (x4 < x0))) (h3 : (x5 = (x1 - x4))) : ((-(100 : Int)) ≤ x5) := by omega
theorem q_4087 {x0 x1 x2 x3 x4 x5 x6 x7 : Int} (h0 : (((0 : Int) ≤ x0) ∧ ((x0 ≤ x1) ∧ ((x1 ≤ x2) ∧ (x2 ≤ (65536 : Int)))))) (h1 : (((0 : Int) ≤ x3) ∧ (x3 ≤ ((8 : Int) * (x2 - x4))))) (h2 : (x4 = x0)) (h3 : (((0 : Int) ≤ x5) ∧ (x5 < x6))) (h4 : (x7 = (x3 - x5))) : (((0 : Int) ≤ x4) ∧ ((x4 ≤ (65536 : Int)) ∧ ((x7 ≤ ((8 : Int) * (x2 - x4))) ∧ (x2 ≤ (65536 : Int))))) := by omega
theorem q_4088 {x0 x1 : Int} (h0 : ((x0 = (5 : Int)) ∧ (x1 = (3 : Int)))) : (x1 = (3 : Int)) := by omega
theorem q_4089 {x0 x1 : Int} (h0 : (((0 : Int) ≤ x0) ∧ (x0 < x1))) : ((1 : Int) ≤ (x1 + x0)) := by omega
theorem q_4090 {x0 x1 x2 x3 x4 : Int} (h0 : (((0 : Int) ≤ x0) ∧ ((x0 ≤ (131072 : Int)) ∧ ((x0 ≤ x1) ∨ (x1 = (65536 : Int)))))) (h1 : (((0 : Int) ≤ x2) ∧ ((x2 ≤ (x3 - x4)) ∧ (x2 ≤ x0)))) : (((0 : Int) ≤ x2) ∧ ((x2 ≤ (200000 : Int)) ∧ (((0 : Int) ≤ x0) ∧ (x0 ≤ (200000 : Int))))) := by omega
theorem q_4091 {x0 x1 x2 x3 x4 x5 : Int} (h0 : (x0 = x1)) (h1 : (((0 : Int) ≤ x1) ∧ ((x1 ≤ x2) ∧ (x2 ≤ (65536 : Int))))) (h2 : (((0 : Int) ≤ x3) ∧ ((x3 ≤ (x4 - x0)) ∧ (x3 ≤ x5)))) : (((0 : Int) ≤ x0) ∧ (x0 ≤ x4)) := by omega
theorem q_4092 {x0 x1 x2 x3 : Int} (h0 : (((0 : Int) ≤ x0) ∧ ((x0 ≤ (x1 - x2)) ∧ (x0 ≤ x3)))) (h1 : (((-(2147483648 : Int)) ≤ x0) ∧ (x0 ≤ (2147483647 : Int)))) : (inr x0) := by omega
theorem q_4093 {x0 x1 : Int} (h0 : ((x0 = (5 : Int)) ∧ (x1 = (3 : Int)))) (h1 : (((0 : Int) ≤ x0) ∧ (x0 ≤ (1000000 : Int)))) : (((0 : Int) ≤ (2 : Int)) ∧ ((2 : Int) < x0)) := by omega
theorem q_4094 {x0 x1 x2 x3 : Int} (h0 : (x0 = x1)) (h1 : (((0 : Int) ≤ x0) ∧ (x0 ≤ x2))) (h2 : (((0 : Int) ≤ x3) ∧ ((x3 ≤ (65536 : Int)) ∧ (x2 ≤ x3)))) (h3 : (inr x1)) : (inr (x1 + (1 : Int))) := by omega
theorem q_4095 {x0 x1 x2 : Int} (h0 : (x0 = x1)) (h1 : (x1 = x2)) : (x0 = x2) := by omega
theorem q_4096 {x0 x1 x2 x3 x4 : Int} (h0 : (x0 = (x1 + (1 : Int)))) (h1 : (x1 = x2)) (h2 : (x2 = (x3 + x4))) : (x0 = (x3 + (x4 + (1 : Int)))) := by omega
theorem q_4097 {x0 x1 : Int} (h0 : (x0 < x1)) (h1 : (((1 : Int) ≤ x1) ∧ (x1 ≤ (200000 : Int)))) (h2 : ((0 : Int) ≤ x0)) : (inr (x0 + (1 : Int))) := by omega
theorem q_4098 {x0 x1 x2 x3 x4 : Int} (h0 : (((0 : Int) ≤ x0) ∧ ((x0 ≤ (x1 - x2)) ∧ (x0 ≤ x3)))) : ((x4 ≠ (0 : Int)) ∨ (((0 : Int) ≤ x0) ∧ ((x0 ≤ (x1 - x2)) ∧ (x0 ≤ x3)))) := by omega
theorem q_4099 {x0 x1 : Int} (h0 : (x0 = x1)) (h1 : (((0 : Int) ≤ x1) ∧ (x1 ≤ (20 : Int)))) : (((0 : Int) ≤ x0) ∧ (x0 ≤ (20 : Int))) := by omega
theorem q_4100 {x0 x1 x2 x3 x4 x5 x6 : Int} (h0 : ((x0 + (1 : Int)) < x1)) (h1 : ((((x0 + (1 : Int)) = x1) ∧ (x2 = (1 : Int))) ∨ (((x0 + (1 : Int)) < x1) ∧ (x2 = (0 : Int))))) (h2 : (((x2 = (1 : Int)) ∧ (x3 = (0 : Int))) ∨ ((x2 ≠ (1 : Int)) ∧ (x3 = ((x4 + x5) + x6))))) : (x3 = ((x4 + x5) + x6)) := by omega
theorem q_4101 {x0 x1 : Int} : (((x0 + (1 : Int)) < x1) ∨ ((0 : Int) = (0 : Int))) := by omega
theorem q_4102 : (((0 : Int) ≤ (0 : Int)) ∧ ((0 : Int) ≤ (27 : Int))) := by omega
theorem q_4103 {x0 x1 x2 : Int} (h0 : ((x0 + (1 : Int)) < x1)) : (((x0 + (1 : Int)) < x1) ∨ (x2 = (0 : Int))) := by omega
theorem q_4104 {x0 x1 x2 x3 : Int} (h0 : (x0 = (0 : Int))) : (((x0 = (0 : Int)) ∧ (x1 = x1)) ∨ (((x0 = (1 : Int)) ∧ (x1 = x2)) ∨ ((x0 = (2 : Int)) ∧ (x1 = x3)))) := by omega
theorem q_4105 {x0 x1 x2 x3 x4 : Int} (h0 : (x0 = (0 : Int))) (h1 : (((0 : Int) ≤ x1) ∧ (x1 < x2))) : (((x0 = (0 : Int)) ∧ (((0 : Int) ≤ x1) ∧ (x1 < x2))) ∨ (((x0 = (1 : Int)) ∧ (((0 : Int) ≤ x1) ∧ (x1 < x3))) ∨ ((x0 = (2 : Int)) ∧ (((0 : Int) ≤ x1) ∧ (x1 < x4))))) := by omega
theorem q_4106 {x0 x1 : Int} (h0 : (x0 ≤ (512 : Int))) (h1 : (((0 : Int) ≤ x1) ∧ (x1 < x0))) : (inr x1) := by omega
theorem q_4107 {x0 x1 x2 x3 : Int} (h0 : (x0 = (1 : Int))) : (((x0 = (0 : Int)) ∧ (x1 = x2)) ∨ (((x0 = (1 : Int)) ∧ (x1 = x1)) ∨ ((x0 = (2 : Int)) ∧ (x1 = x3)))) := by omega
theorem q_4108 {x0 x1 x2 x3 x4 : Int} (h0 : (x0 = (1 : Int))) (h1 : (((0 : Int) ≤ x1) ∧ (x1 < x2))) : (((x0 = (0 : Int)) ∧ (((0 : Int) ≤ x1) ∧ (x1 < x3))) ∨ (((x0 = (1 : Int)) ∧ (((0 : Int) ≤ x1) ∧ (x1 < x2))) ∨ ((x0 = (2 : Int)) ∧ (((0 : Int) ≤ x1) ∧ (x1 < x4))))) := by omega
theorem q_4109 {x0 x1 x2 x3 : Int} (h0 : (x0 = (2 : Int))) : (((x0 = (0 : Int)) ∧ (x1 = x2)) ∨ (((x0 = (1 : Int)) ∧ (x1 = x3)) ∨ ((x0 = (2 : Int)) ∧ (x1 = x1)))) := by omega
theorem q_4110 {x0 x1 x2 x3 x4 : Int} (h0 : (x0 = (2 : Int))) (h1 : (((0 : Int) ≤ x1) ∧ (x1 < x2))) : (((x0 = (0 : Int)) ∧ (((0 : Int) ≤ x1) ∧ (x1 < x3))) ∨ (((x0 = (1 : Int)) ∧ (((0 : Int) ≤ x1) ∧ (x1 < x4))) ∨ ((x0 = (2 : Int)) ∧ (((0 : Int) ≤ x1) ∧ (x1 < x2))))) := by omega
theorem q_4111 {x0 : Int} (h0 : (inr x0)) (h1 : ((x0 = (1 : Int)) ∨ (x0 = (4 : Int)))) : ((inr x0) ∧ ((0 : Int) < x0)) := by omega
theorem q_4112 {x0 x1 : Int} (h0 : (((0 : Int) ≤ x0) ∧ (x0 ≤ (131072 : Int)))) (h1 : ((x1 = (1 : Int)) ∨ (x1 = (4 : Int)))) : ((inr ((x0 + x1) - (1 : Int))) ∧ ((0 : Int) ≤ ((x0 + x1) - (1 : Int)))) := by omega
theorem q_4113 {x0 x1 x2 : Int} (h0 : ((x0 = (1 : Int)) ∨ (x0 = (4 : Int)))) : (((0 : Int) < x0) ∨ (x1 = x2)) := by omega
theorem q_4114 {x0 x1 x2 x3 x4 x5 : Int} (h0 : (x0 ≤ x1)) (h1 : (((0 : Int) ≤ x2) ∧ ((x2 ≤ x3) ∧ ((x3 ≤ x4) ∧ (x4 ≤ (65536 : Int)))))) (h2 : (((0 : Int) ≤ x5) ∧ (x5 ≤ x3))) (h3 : ((x1 < x0) ∨ (x5 = x3))) : (((0 : Int) ≠ (0 : Int)) ∨ (x5 = x3)) := by omega
theorem q_4115 {x0 x1 x2 x3 x4 : Int} (h0 : (((0 : Int) ≤ x0) ∧ ((x0 ≤ x1) ∧ ((x1 ≤ x2) ∧ (x2 ≤ (65536 : Int)))))) (h1 : (((0 : Int) ≤ x3) ∧ (x3 ≤ x1))) (h2 : ((x3 ≤ x4) ∧ (x4 ≤ x1))) : (((0 : Int) ≤ x3) ∧ ((x3 ≤ (65536 : Int)) ∧ (((0 : Int) ≤ x4) ∧ ((x4 ≤ x2) ∧ ((x2 ≤ (65536 : Int)) ∧ (x3 ≤ (200000 : Int))))))) := by omega
theorem q_4116 {x0 x1 x2 : Int} (h0 : (((0 : Int) ≤ x0) ∧ (x0 ≤ x1))) (h1 : ((x0 ≤ x2) ∧ (x2 ≤ x1))) : (((0 : Int) ≤ x2) ∧ (x2 ≤ x1)) := by omega
theorem q_4117 {x0 x1 : Int} (h0 : (x0 < x1)) (h1 : ((x1 = (1 : Int)) ∨ (x1 = (4 : Int)))) (h2 : ((0 : Int) ≤ x0)) : (inr (x0 + (1 : Int))) := by omega
theorem q_4118 {x0 x1 x2 : Int} (h0 : (x0 = (14 : Int))) : ((x0 ≠ (0 : Int)) ∨ (x1 = x2)) := by omega
theorem q_4119 {x0 : Int} (h0 : (x0 = (14 : Int))) : (((0 : Int) ≤ x0) ∧ (x0 ≤ (17 : Int))) := by omega
theorem q_4120 {x0 x1 : Int} (h0 : (((0 : Int) ≤ (((x0 + x1) - (1 : Int)) / x1)) ∧ ((((x0 + x1) - (1 : Int)) / x1) ≤ (131072 : Int)))) : ((0 : Int) ≤ (((x0 + x1) - (1 : Int)) / x1)) := by omega
theorem q_4121 {x0 x1 : Int} (h0 : (((0 : Int) ≤ (((x0 + x1) - (1 : Int)) / x1)) ∧ ((((x0 + x1) - (1 : Int)) / x1) ≤ (131072 : Int)))) : (inr (((x0 + x1) - (1 : Int)) / x1)) := by omega
theorem q_4122 {x0 x1 x2 : Int} (h0 : (((0 : Int) ≤ (x0 * (((x1 + x2) - (1 : Int)) / x2))) ∧ ((x0 * (((x1 + x2) - (1 : Int)) / x2)) ≤ x1))) : ((0 : Int) ≤ (x1 - (x0 * (((x1 + x2) - (1 : Int)) / x2)))) := by omega
theorem q_4123 {x0 x1 x2 : Int} (h0 : (((0 : Int) ≤ x0) ∧ (x0 ≤ (131072 : Int)))) (h1 : (((0 : Int) ≤ (x1 * (((x0 + x2) - (1 : Int)) / x2))) ∧ ((x1 * (((x0 + x2) - (1 : Int)) / x2)) ≤ x0))) : (inr (x0 - (x1 * (((x0 + x2) - (1 : Int)) / x2)))) := by omega
theorem q_4124 {x0 x1 x2 x3 x4 : Int} (h0 : (x0 < x1)) (h1 : (((0 : Int) ≤ x2) ∧ ((x2 ≤ x3) ∧ ((x3 ≤ x4) ∧ (x4 ≤ (65536 : Int)))))) (h2 : ((x1 = (1 : Int)) ∨ (x1 = (4 : Int)))) (h3 : ((0 : Int) ≤ x0)) : (inr (x2 + ((2 : Int) * x0))) := by omega
theorem q_4125 {x0 : Int} (h0 : ((x0 = (1 : Int)) ∨ (x0 = (4 : Int)))) : (inr (x0 - (1 : Int))) := by omega
theorem q_4126 {x0 x1 : Int} : (((0 : Int) ≤ (0 : Int)) ∨ ((x0 + (6 : Int)) ≤ x1)) := by omega
theorem q_4127 {x0 x1 x2 : Int} (h0 : ((3 : Int) ≤ x0)) (h1 : ((x0 ≤ (0 : Int)) ∨ (x0 ≤ (3 : Int)))) (h2 : ((x0 ≤ (0 : Int)) ∨ ((x1 + (6 : Int)) ≤ x2))) : (x0 = (3 : Int)) := by omega
theorem q_4128 {x0 x1 x2 : Int} (h0 : (((0 : Int) ≤ x0) ∧ ((x0 ≤ x1) ∧ ((x1 ≤ x2) ∧ (x2 ≤ (65536 : Int)))))) : (((-(2147483648 : Int)) ≤ (x0 + (6 : Int))) ∧ ((x0 + (6 : Int)) ≤ (2147483647 : Int))) := by omega
theorem q_4129 {x0 x1 x2 x3 : Int} (h0 : (((0 : Int) ≤ x0) ∧ ((x0 ≤ x1) ∧ ((x1 ≤ x2) ∧ (x2 ≤ (65536 : Int)))))) (h1 : (x3 = (3 : Int))) (h2 : ((x3 ≤ (0 : Int)) ∨ ((x0 + (6 : Int)) ≤ x1))) : (((0 : Int) ≤ (x0 + (6 : Int))) ∧ ((x0 + (6 : Int)) ≤ x1)) := by omega
theorem q_4130 {x0 x1 x2 : Int} (h0 : ((x0 - x1) < (6 : Int))) (h1 : (((0 : Int) ≤ x1) ∧ ((x1 ≤ x0) ∧ ((x0 ≤ x2) ∧ (x2 ≤ (65536 : Int)))))) : (inr (x0 - x1)) := by omega
theorem q_4131 {x0 x1 x2 x3 : Int} (h0 : (x0 < (3 : Int))) (h1 : ((6 : Int) ≤ (x1 - x2))) (h2 : (((0 : Int) ≤ x2) ∧ ((x2 ≤ x1) ∧ ((x1 ≤ x3) ∧ (x3 ≤ (65536 : Int)))))) (h3 : ((0 : Int) ≤ x0)) : (((2 : Int) ≤ (0 : Int)) ∨ (((0 : Int) ≤ (x2 + ((2 : Int) * x0))) ∧ (((x2 + ((2 : Int) * x0)) + (2 : Int)) ≤ x3))) := by omega
theorem q_4132 {x0 x1 x2 x3 : Int} (h0 : (x0 < (3 : Int))) (h1 : ((6 : Int) ≤ (x1 - x2))) (h2 : (((0 : Int) ≤ x2) ∧ ((x2 ≤ x1) ∧ ((x1 ≤ x3) ∧ (x3 ≤ (65536 : Int)))))) (h3 : ((0 : Int) ≤ x0)) : (inr (x2 + ((2 : Int) * x0))) := by omega
theorem q_4133 {x0 x1 x2 : Int} (h0 : ((6 : Int) ≤ (x0 - x1))) : (((x2 + (1 : Int)) ≤ (0 : Int)) ∨ ((x1 + (6 : Int)) ≤ x0)) := by omega
theorem q_4134 {x0 x1 x2 x3 : Int} (h0 : (x0 = (11 : Int))) : ((x0 ≠ (0 : Int)) ∨ ((x1 ≠ x2) ∨ (((0 : Int) ≤ x3) ∧ (x3 ≤ (11 : Int))))) := by omega
theorem q_4135 {x0 x1 x2 x3 : Int} (h0 : (x0 = (11 : Int))) : ((x0 ≠ (0 : Int)) ∨ ((x1 = (-(1 : Int))) ∨ ((x1 = x2) ∨ (x1 = x3)))) := by omega
theorem q_4136 {x0 x1 x2 x3 : Int} (h0 : (((0 : Int) ≤ x0) ∧ ((x0 ≤ x1) ∧ ((x1 ≤ x2) ∧ (x2 ≤ (65536 : Int)))))) (h1 : ((x0 < x3) ∧ (x3 ≤ x1))) : (((0 : Int) ≤ x0) ∧ (x0 ≤ x3)) := by omega
theorem q_4137 {x0 x1 x2 x3 x4 : Int} (h0 : (((0 : Int) ≤ x0) ∧ ((x0 ≤ x1) ∧ ((x1 ≤ x2) ∧ (x2 ≤ (65536 : Int)))))) (h1 : ((x0 < x3) ∧ (x3 ≤ x1))) (h2 : (((3 : Int) ≤ x4) ∧ (x4 ≤ (5 : Int)))) (h3 : (x4 ≤ (x3 - x0))) : (((-(2147483648 : Int)) ≤ (x0 + x4)) ∧ ((x0 + x4) ≤ (2147483647 : Int))) := by omega
theorem q_4138 {x0 x1 x2 x3 x4 : Int} (h0 : (((0 : Int) ≤ x0) ∧ ((x0 ≤ x1) ∧ ((x1 ≤ x2) ∧ (x2 ≤ (65536 : Int)))))) (h1 : ((x0 < x3) ∧ (x3 ≤ x1))) (h2 : (((3 : Int) ≤ x4) ∧ (x4 ≤ (5 : Int)))) (h3 : (x4 ≤ (x3 - x0))) : (inr (x3 - (x0 + x4))) := by omega
theorem q_4139 {x0 : Int} (h0 : (((0 : Int) ≤ x0) ∧ (x0 ≤ (262143 : Int)))) : ((0 : Int) ≤ x0) := by omega
theorem q_4140 {x0 : Int} (h0 : ((0 : Int) ≤ x0)) (h1 : (((0 : Int) ≤ x0) ∧ (x0 ≤ (262143 : Int)))) : (((-(2147483648 : Int)) ≤ x0) ∧ (x0 ≤ (2147483647 : Int))) := by omega
theorem q_4141 {x0 x1 : Int} (h0 : ((((65536 : Int) < x0) ∧ (x1 = (65536 : Int))) ∨ ((¬ ((65536 : Int) < x0)) ∧ (x1 = x0)))) (h1 : ((0 : Int) ≤ x0)) (h2 : (((0 : Int) ≤ x0) ∧ (x0 ≤ (262143 : Int)))) : (inr x1) := by omega
theorem q_4142 : (((4 : Int) = (1 : Int)) ∨ ((4 : Int) = (4 : Int))) := by omega
theorem q_4143 {x0 x1 : Int} (h0 : (x0 ≤ x1)) (h1 : ((0 : Int) ≤ x0)) (h2 : (((0 : Int) ≤ x1) ∧ (x1 ≤ (131072 : Int)))) : (((0 : Int) ≤ x0) ∧ (x0 ≤ (131072 : Int))) := by omega
theorem q_4144 {x0 x1 x2 x3 x4 x5 x6 : Int} (h0 : (x0 ≤ (x1 - (x2 + x3)))) (h1 : (((0 : Int) ≤ x2) ∧ ((x2 ≤ x4) ∧ ((x4 ≤ x5) ∧ (x5 ≤ (65536 : Int)))))) (h2 : ((x2 < x1) ∧ (x1 ≤ x4))) (h3 : (((0 : Int) ≤ x6) ∧ (x6 ≤ ((x2 + x3) + x0)))) : (((0 : Int) ≤ x6) ∧ ((x6 ≤ ((x2 + x3) + x0)) ∧ ((((x2 + x3) + x0) ≤ x5) ∧ (x5 ≤ (65536 : Int))))) := by omega
theorem q_4145 {x0 x1 x2 x3 x4 x5 x6 : Int} (h0 : (x0 ≤ (x1 - (x2 + x3)))) (h1 : (((0 : Int) ≤ x2) ∧ ((x2 ≤ x4) ∧ ((x4 ≤ x5) ∧ (x5 ≤ (65536 : Int)))))) (h2 : ((x2 < x1) ∧ (x1 ≤ x4))) (h3 : (((0 : Int) ≤ x6) ∧ (x6 ≤ ((x2 + x3) + x0)))) : (inr ((x2 + x3) + x0)) := by omega
theorem q_4146 {x0 x1 x2 x3 : Int} (h0 : (x0 ≤ x1)) (h1 : (x1 = x2)) : ((x3 ≠ (0 : Int)) ∨ (x0 ≤ x2)) := by omega
theorem q_4147 {x0 x1 x2 x3 : Int} (h0 : (x0 ≤ x1)) (h1 : ((0 : Int) ≤ x0)) (h2 : ((x0 ≤ x2) ∨ (x2 = (65536 : Int)))) (h3 : (((0 : Int) ≤ x1) ∧ (x1 ≤ (131072 : Int)))) : ((x3 ≠ (0 : Int)) ∨ (((0 : Int) ≤ x0) ∧ ((x0 ≤ (131072 : Int)) ∧ ((x0 ≤ x2) ∨ (x2 = (65536 : Int)))))) := by omega
theorem q_4148 {x0 x1 x2 x3 x4 : Int} (h0 : (x0 ≤ (x1 - (x2 + x3)))) (h1 : (((0 : Int) ≤ x4) ∧ (x4 ≤ ((x2 + x3) + x0)))) : (((0 : Int) ≤ x4) ∧ (x4 ≤ x1)) := by omega
theorem q_4149 {x0 : Int} : (((1 : Int) = (1 : Int)) ∨ (((3 : Int) * ((x0 + (3 : Int)) / (4 : Int))) ≤ x0)) := by omega
theorem q_4150 : (((1 : Int) = (1 : Int)) ∨ ((1 : Int) = (4 : Int))) := by omega
theorem q_4151 {x0 x1 x2 x3 x4 : Int} (h0 : (((0 : Int) ≤ x0) ∧ ((x0 ≤ x1) ∧ ((x1 ≤ x2) ∧ (x2 ≤ (65536 : Int)))))) (h1 : (((3 : Int) ≤ x3) ∧ (x3 ≤ (5 : Int)))) (h2 : (((0 : Int) ≤ x4) ∧ (x4 ≤ (262143 : Int)))) : (((0 : Int) ≤ (x0 + x3)) ∧ ((x0 + x3) ≤ ((x0 + x3) + x4))) := by omega
theorem q_4152 {x0 x1 x2 x3 x4 x5 : Int} (h0 : (x0 ≤ (x1 - (x2 + x3)))) (h1 : (((0 : Int) ≤ x2) ∧ ((x2 ≤ x4) ∧ ((x4 ≤ x5) ∧ (x5 ≤ (65536 : Int)))))) (h2 : ((x2 < x1) ∧ (x1 ≤ x4))) (h3 : (((3 : Int) ≤ x3) ∧ (x3 ≤ (5 : Int)))) (h4 : (x3 ≤ (x1 - x2))) (h5 : (((0 : Int) ≤ x0) ∧ (x0 ≤ (262143 : Int)))) : (((0 : Int) ≤ (x2 + x3)) ∧ (((x2 + x3) ≤ (65536 : Int)) ∧ (((0 : Int) ≤ ((x2 + x3) + x0)) ∧ ((((x2 + x3) + x0) ≤ x5) ∧ (x5 ≤ (65536 : Int)))))) := by omega
theorem q_4153 {x0 x1 x2 x3 x4 x5 : Int} (h0 : (x0 ≤ (x1 - (x2 + x3)))) (h1 : (((0 : Int) ≤ x2) ∧ ((x2 ≤ x4) ∧ ((x4 ≤ x5) ∧ (x5 ≤ (65536 : Int)))))) (h2 : ((x2 < x1) ∧ (x1 ≤ x4))) (h3 : (((3 : Int) ≤ x3) ∧ (x3 ≤ (5 : Int)))) (h4 : (((0 : Int) ≤ x0) ∧ (x0 ≤ (262143 : Int)))) : (inr ((x2 + x3) + x0)) := by omega
theorem q_4154 {x0 x1 x2 x3 x4 : Int} (h0 : (((0 : Int) ≤ x0) ∧ ((x0 ≤ x1) ∧ ((x1 ≤ x2) ∧ (x2 ≤ (65536 : Int)))))) (h1 : ((x0 < x3) ∧ (x3 ≤ x1))) (h2 : (((3 : Int) ≤ x4) ∧ (x4 ≤ (5 : Int)))) (h3 : (x4 ≤ (x3 - x0))) : (inr (x0 + x4)) := by omega
theorem q_4155 {x0 : Int} (h0 : ((0 : Int) ≤ x0)) (h1 : (inr x0)) : (((-(2147483648 : Int)) ≤ x0) ∧ (x0 ≤ (2147483647 : Int))) := by omega
theorem q_4156 {x0 x1 x2 : Int} (h0 : (x0 ≠ x1)) : ((x0 ≠ x1) ∨ (((0 : Int) ≤ x2) ∧ (x2 ≤ (11 : Int)))) := by omega
theorem q_4157 {x0 x1 x2 x3 x4 x5 : Int} (h0 : ((0 : Int) ≤ x0)) (h1 : ((x0 = (-(1 : Int))) ∨ (((0 : Int) ≤ x0) ∧ ((x0 ≤ ((x1 + x2) + x3)) ∧ (((0 : Int) ≤ x4) ∧ (x4 ≤ (11 : Int))))))) (h2 : (((-(2147483648 : Int)) ≤ x4) ∧ (x4 ≤ (2147483647 : Int)))) : ((x5 ≠ x5) ∨ (((0 : Int) ≤ x4) ∧ (x4 ≤ (11 : Int)))) := by omega
theorem q_4158 {x0 x1 : Int} : ((x0 = (-(1 : Int))) ∨ ((x0 = x0) ∨ (x0 = x1))) := by omega
theorem q_4159 {x0 x1 x2 x3 x4 x5 x6 : Int} (h0 : ((0 : Int) ≤ x0)) (h1 : (((0 : Int) ≤ x1) ∧ ((x1 ≤ x2) ∧ ((x2 ≤ x3) ∧ (x3 ≤ (65536 : Int)))))) (h2 : ((x0 = (-(1 : Int))) ∨ (((0 : Int) ≤ x0) ∧ ((x0 ≤ ((x1 + x4) + x5)) ∧ (((0 : Int) ≤ x6) ∧ (x6 ≤ (11 : Int))))))) (h3 : (((3 : Int) ≤ x4) ∧ (x4 ≤ (5 : Int)))) (h4 : (((0 : Int) ≤ x5) ∧ (x5 ≤ (262143 : Int)))) : (((0 : Int) ≤ x0) ∧ (x0 ≤ ((x1 + x4) + x5))) := by omega
theorem q_4160 {x0 x1 x2 : Int} (h0 : (x0 = (12 : Int))) : ((x0 ≠ (0 : Int)) ∨ (x1 = x2)) := by omega
theorem q_4161 {x0 x1 x2 : Int} (h0 : (x0 = (12 : Int))) : ((x0 ≠ (0 : Int)) ∨ (x1 ≤ x2)) := by omega
theorem q_4162 {x0 x1 x2 x3 : Int} (h0 : (x0 = (12 : Int))) : ((x0 ≠ (0 : Int)) ∨ ((x1 ≠ x2) ∨ (((0 : Int) ≤ x3) ∧ (x3 ≤ (11 : Int))))) := by omega
theorem q_4163 {x0 x1 x2 x3 : Int} (h0 : (x0 = (12 : Int))) : ((x0 ≠ (0 : Int)) ∨ ((x1 = (-(1 : Int))) ∨ ((x1 = x2) ∨ (x1 = x3)))) := by omega
theorem q_4164 {x0 x1 x2 : Int} (h0 : (x0 = (12 : Int))) : ((x0 ≠ (0 : Int)) ∨ (((0 : Int) ≤ x1) ∧ ((x1 ≤ (131072 : Int)) ∧ ((x1 ≤ x2) ∨ (x2 = (65536 : Int)))))) := by omega
theorem q_4165 {x0 x1 x2 x3 x4 : Int} (h0 : (((0 : Int) ≤ x0) ∧ ((x0 ≤ x1) ∧ ((x1 ≤ x2) ∧ (x2 ≤ (65536 : Int)))))) (h1 : (((3 : Int) ≤ x3) ∧ (x3 ≤ (5 : Int)))) (h2 : (x3 ≤ (x4 - x0))) : (((0 : Int) ≤ (x0 + x3)) ∧ ((x0 + x3) ≤ x4)) := by omega
theorem q_4166 {x0 : Int} (h0 : (x0 = (12 : Int))) : (((0 : Int) ≤ x0) ∧ (x0 ≤ (17 : Int))) := by omega
theorem q_4167 {x0 x1 x2 x3 : Int} (h0 : (x0 = (10 : Int))) : ((x0 ≠ (0 : Int)) ∨ ((x1 ≠ x2) ∨ (((0 : Int) ≤ x3) ∧ (x3 ≤ (11 : Int))))) := by omega
theorem q_4168 {x0 x1 x2 x3 : Int} (h0 : (x0 = (10 : Int))) : ((x0 ≠ (0 : Int)) ∨ ((x1 = (-(1 : Int))) ∨ ((x1 = x2) ∨ (x1 = x3)))) := by omega
theorem q_4169 {x0 x1 x2 : Int} (h0 : (x0 = (13 : Int))) : ((x0 ≠ (0 : Int)) ∨ (x1 = x2)) := by omega
theorem q_4170 {x0 x1 x2 : Int} (h0 : (x0 = (13 : Int))) : ((x0 ≠ (0 : Int)) ∨ (x1 ≤ x2)) := by omega
theorem q_4171 {x0 x1 x2 x3 : Int} (h0 : (x0 = (13 : Int))) : ((x0 ≠ (0 : Int)) ∨ ((x1 ≠ x2) ∨ (((0 : Int) ≤ x3) ∧ (x3 ≤ (11 : Int))))) := by omega
theorem q_4172 {x0 x1 x2 x3 : Int} (h0 : (x0 = (13 : Int))) : ((x0 ≠ (0 : Int)) ∨ ((x1 = (-(1 : Int))) ∨ ((x1 = x2) ∨ (x1 = x3)))) := by omega
theorem q_4173 {x0 x1 x2 : Int} (h0 : (x0 = (13 : Int))) : ((x0 ≠ (0 : Int)) ∨ (((0 : Int) ≤ x1) ∧ ((x1 ≤ (131072 : Int)) ∧ ((x1 ≤ x2) ∨ (x2 = (65536 : Int)))))) := by omega
theorem q_4174 {x0 : Int} (h0 : (x0 = (13 : Int))) : (((0 : Int) ≤ x0) ∧ (x0 ≤ (17 : Int))) := by omega
theorem q_4175 {x0 x1 : Int} (h0 : (x0 ≤ (0 : Int))) : ((x0 ≤ (0 : Int)) ∨ ((x0 > (0 : Int)) ∧ (x1 ≥ ((3 : Int) * ((x1 + (3 : Int)) / (4 : Int)))))) := by omega
theorem q_4176 {x0 : Int} (h0 : (((0 : Int) ≤ x0) ∧ (x0 ≤ (262143 : Int)))) : ((inr (x0 + (3 : Int))) ∧ ((0 : Int) ≤ (x0 + (3 : Int)))) := by omega
theorem q_4177 {x0 : Int} (h0 : (((0 : Int) ≤ x0) ∧ (x0 ≤ (262143 : Int)))) : (inr ((3 : Int) * ((x0 + (3 : Int)) / (4 : Int)))) := by omega
theorem q_4178 {x0 x1 : Int} (h0 : ((0 : Int) < x0)) (h1 : (((3 : Int) * ((x1 + (3 : Int)) / (4 : Int))) ≤ x1)) : ((x0 ≤ (0 : Int)) ∨ ((x0 > (0 : Int)) ∧ (x1 ≥ ((3 : Int) * ((x1 + (3 : Int)) / (4 : Int)))))) := by omega
theorem q_4179 {x0 x1 x2 x3 : Int} (h0 : (((0 : Int) ≤ x0) ∧ ((x0 ≤ x1) ∧ ((x1 ≤ x2) ∧ (x2 ≤ (65536 : Int)))))) (h1 : ((x0 < x3) ∧ (x3 ≤ x1))) : (((0 : Int) ≤ x0) ∧ (x0 < x2)) := by omega
theorem q_4180 {x0 x1 x2 x3 : Int} (h0 : (((0 : Int) ≤ x0) ∧ ((x0 ≤ x1) ∧ ((x1 ≤ x2) ∧ (x2 ≤ (65536 : Int)))))) (h1 : ((x0 < x3) ∧ (x3 ≤ x1))) : (inr (x3 - x0)) := by omega
theorem q_4181 {x0 x1 x2 : Int} (h0 : (x0 = ((x1 / (4 : Int)) % (4 : Int)))) (h1 : (((x0 ≥ (2 : Int)) ∧ (x2 = (x0 + (2 : Int)))) ∨ ((x0 < (2 : Int)) ∧ (x2 = (3 : Int))))) : (((0 : Int) ≤ x2) ∧ (x2 ≤ (8 : Int))) := by omega
theorem q_4182 {x0 x1 x2 x3 x4 : Int} (h0 : (x0 ≤ (x1 - x2))) (h1 : (((0 : Int) ≤ x2) ∧ ((x2 ≤ x3) ∧ ((x3 ≤ x4) ∧ (x4 ≤ (65536 : Int)))))) (h2 : ((x2 < x1) ∧ (x1 ≤ x3))) : ((x0 ≤ (0 : Int)) ∨ (((0 : Int) ≤ x2) ∧ ((x2 + x0) ≤ x4))) := by omega
theorem q_4183 {x0 x1 x2 : Int} (h0 : (x0 = ((x1 / (4 : Int)) % (4 : Int)))) (h1 : (((x0 ≥ (2 : Int)) ∧ (x2 = (((4 : Int) * x0) + (6 : Int)))) ∨ ((x0 < (2 : Int)) ∧ (x2 = (10 : Int))))) : (((0 : Int) ≤ x2) ∧ (x2 ≤ (31 : Int))) := by omega
theorem q_4184 {x0 : Int} (h0 : (((1 : Int) ≤ x0) ∧ (x0 ≤ (262144 : Int)))) : (inr (x0 - (1 : Int))) := by omega
theorem q_4185 {x0 x1 x2 : Int} (h0 : (x0 = ((x1 / (4 : Int)) % (4 : Int)))) (h1 : (((x0 ≥ (2 : Int)) ∧ (x2 = (x0 + (2 : Int)))) ∨ ((x0 < (2 : Int)) ∧ (x2 = (3 : Int))))) : (((3 : Int) ≤ x2) ∧ (x2 ≤ (5 : Int))) := by omega
theorem q_4186 {x0 x1 : Int} (h0 : (x0 = ((x1 / (4 : Int)) % (4 : Int)))) : (((0 : Int) ≤ x0) ∧ (x0 ≤ (3 : Int))) := by omega
theorem q_4187 {x0 : Int} (h0 : ((x0 = (2 : Int)) ∨ (x0 = (3 : Int)))) : (((2 : Int) ≤ x0) ∧ (x0 ≤ (3 : Int))) := by omega
theorem q_4188 {x0 x1 : Int} (h0 : (((0 : Int) ≤ x0) ∧ (x0 < x1))) (h1 : (((1 : Int) ≤ x1) ∧ (x1 ≤ (262144 : Int)))) : (((0 : Int) ≤ x0) ∧ (x0 ≤ (262143 : Int))) := by omega
theorem q_4189 {x0 : Int} (h0 : ((2 : Int) ≤ x0)) : (((x0 ≥ (2 : Int)) ∧ ((((4 : Int) * x0) + (6 : Int)) = (((4 : Int) * x0) + (6 : Int)))) ∨ ((x0 < (2 : Int)) ∧ ((((4 : Int) * x0) + (6 : Int)) = (10 : Int)))) := by omega
theorem q_4190 {x0 x1 : Int} (h0 : ((2 : Int) ≤ x0)) (h1 : (x0 = ((x1 / (4 : Int)) % (4 : Int)))) : (inr (((4 : Int) * x0) + (6 : Int))) := by omega
theorem q_4191 {x0 : Int} (h0 : (x0 < (2 : Int))) : (((x0 ≥ (2 : Int)) ∧ ((10 : Int) = (((4 : Int) * x0) + (6 : Int)))) ∨ ((x0 < (2 : Int)) ∧ ((10 : Int) = (10 : Int)))) := by omega
theorem q_4192 {x0 : Int} (h0 : ((2 : Int) ≤ x0)) : (((x0 ≥ (2 : Int)) ∧ ((x0 + (2 : Int)) = (x0 + (2 : Int)))) ∨ ((x0 < (2 : Int)) ∧ ((x0 + (2 : Int)) = (3 : Int)))) := by omega
theorem q_4193 {x0 x1 : Int} (h0 : ((2 : Int) ≤ x0)) (h1 : (x0 = ((x1 / (4 : Int)) % (4 : Int)))) : (inr (x0 + (2 : Int))) := by omega
theorem q_4194 {x0 : Int} (h0 : (x0 < (2 : Int))) : (((x0 ≥ (2 : Int)) ∧ ((3 : Int) = (x0 + (2 : Int)))) ∨ ((x0 < (2 : Int)) ∧ ((3 : Int) = (3 : Int)))) := by omega
theorem q_4195 {x0 x1 x2 : Int} (h0 : (x0 = (11 : Int))) : ((x0 ≠ (0 : Int)) ∨ ((x1 = (-(1 : Int))) ∨ (x1 = x2))) := by omega
theorem q_4196 {x0 : Int} : ((x0 = (-(1 : Int))) ∨ (x0 = x0)) := by omega
theorem q_4197 {x0 x1 x2 : Int} (h0 : (x0 = (12 : Int))) : ((x0 ≠ (0 : Int)) ∨ ((x1 = (-(1 : Int))) ∨ (x1 = x2))) := by omega
theorem q_4198 {x0 x1 x2 : Int} (h0 : (x0 = (10 : Int))) : ((x0 ≠ (0 : Int)) ∨ ((x1 = (-(1 : Int))) ∨ (x1 = x2))) := by omega
theorem q_4199 {x0 x1 x2 : Int} (h0 : (x0 = (13 : Int))) : ((x0 ≠ (0 : Int)) ∨ ((x1 = (-(1 : Int))) ∨ (x1 = x2))) := by omega
theorem q_4200 {x0 x1 x2 : Int} (h0 : ((x0 = (3 : Int)) ∧ ((x1 = (3 : Int)) ∧ (x2 = (3 : Int))))) (h1 : (((0 : Int) ≤ x2) ∧ (x2 ≤ (1000000 : Int)))) : (((0 : Int) ≤ (0 : Int)) ∧ ((0 : Int) < x2)) := by omega
theorem q_4201 {x0 x1 x2 : Int} (h0 : ((x0 = (3 : Int)) ∧ ((x1 = (3 : Int)) ∧ (x2 = (3 : Int))))) (h1 : (((0 : Int) ≤ x0) ∧ (x0 ≤ (1000000 : Int)))) : (((0 : Int) ≤ (0 : Int)) ∧ ((0 : Int) < x0)) := by omega
theorem q_4202 {x0 x1 x2 x3 : Int} (h0 : (((0 : Int) ≤ x0) ∧ ((x0 ≤ x1) ∧ ((x1 ≤ x2) ∧ (x2 ≤ (65536 : Int)))))) (h1 : ((x0 ≤ x3) ∧ (x3 ≤ x1))) : (((0 : Int) ≤ x0) ∧ ((x0 ≤ x3) ∧ ((x3 ≤ x2) ∧ (x2 ≤ (65536 : Int))))) := by omega
theorem q_4203 {x0 x1 x2 x3 : Int} (h0 : ((0 : Int) ≤ x0)) (h1 : (x1 = (9 : Int))) (h2 : (((x0 = (-(1 : Int))) ∧ (x2 = x3)) ∨ (((5 : Int) ≤ x2) ∧ (x2 ≤ x1)))) (h3 : (((-(2147483648 : Int)) ≤ x2) ∧ (x2 ≤ (2147483647 : Int)))) : (x2 ≤ (9 : Int)) := by omega
theorem q_4204 {x0 x1 x2 : Int} {p0 : Prop} (h0 : ((0 : Int) ≤ x0)) (h1 : ((x0 = (-(1 : Int))) ∨ ((x1 ≤ x0) ∧ (x0 ≤ x2)))) (h2 : ((x0 = (-(1 : Int))) ∨ p0)) (h3 : (((-(2147483648 : Int)) ≤ x2) ∧ (x2 ≤ (2147483647 : Int)))) : (x0 ≤ x2) := by omega
theorem q_4205 {x0 x1 x2 x3 x4 : Int} {p0 : Prop} (h0 : ((0 : Int) ≤ x0)) (h1 : (((0 : Int) ≤ x1) ∧ ((x1 ≤ x2) ∧ ((x2 ≤ x3) ∧ (x3 ≤ (65536 : Int)))))) (h2 : ((x1 ≤ x4) ∧ (x4 ≤ x2))) (h3 : ((x0 = (-(1 : Int))) ∨ ((x1 ≤ x0) ∧ (x0 ≤ x4)))) (h4 : ((x0 = (-(1 : Int))) ∨ p0)) : (((0 : Int) ≤ x0) ∧ ((x1 ≤ x0) ∧ (x0 ≤ x2))) := by omega
theorem q_4206 {x0 x1 x2 : Int} (h0 : (x0 = (16 : Int))) : ((x0 ≠ (0 : Int)) ∨ (x1 = x2)) := by omega
theorem q_4207 {x0 : Int} (h0 : (x0 = (16 : Int))) : (((0 : Int) ≤ x0) ∧ (x0 ≤ (17 : Int))) := by omega
theorem q_4208 {x0 x1 x2 : Int} (h0 : (((0 : Int) ≤ x0) ∧ ((x0 ≤ x1) ∧ ((x1 ≤ x2) ∧ (x2 ≤ (65536 : Int)))))) : (((-(2147483648 : Int)) ≤ (x0 + (1 : Int))) ∧ ((x0 + (1 : Int)) ≤ (2147483647 : Int))) := by omega
theorem q_4209 {x0 x1 x2 x3 : Int} (h0 : ((x0 % (256 : Int)) ≤ x1)) (h1 : (x2 = (35 : Int))) (h2 : ((x2 + (1 : Int)) = x3)) (h3 : (x1 = (35 : Int))) : (((0 : Int) ≤ (x0 % (256 : Int))) ∧ ((x0 % (256 : Int)) < x3)) := by omega
theorem q_4210 {x0 x1 x2 x3 : Int} (h0 : (x0 < x1)) (h1 : (((0 : Int) ≤ x0) ∧ ((x0 ≤ x2) ∧ ((x2 ≤ x3) ∧ (x3 ≤ (65536 : Int)))))) (h2 : ((x0 ≤ x1) ∧ (x1 ≤ x2))) : (((0 : Int) ≤ (x0 + (1 : Int))) ∧ ((x0 ≤ (x0 + (1 : Int))) ∧ ((x0 + (1 : Int)) ≤ x2))) := by omega
theorem q_4211 {x0 x1 x2 : Int} (h0 : ((x0 = (3 : Int)) ∧ ((x1 = (3 : Int)) ∧ (x2 = (3 : Int))))) (h1 : (((0 : Int) ≤ x1) ∧ (x1 ≤ (1000000 : Int)))) : (((0 : Int) ≤ (0 : Int)) ∧ ((0 : Int) < x1)) := by omega
theorem q_4212 {x0 : Int} : (((0 : Int) = (2 : Int)) ∨ (x0 = x0)) := by omega
theorem q_4213 {x0 : Int} : (((0 : Int) = (1 : Int)) ∨ (x0 = x0)) := by omega
theorem q_4214 {x0 : Int} : (((0 : Int) = (0 : Int)) ∨ (x0 = x0)) := by omega
theorem q_4215 {x0 x1 x2 : Int} (h0 : ((x0 = (3 : Int)) ∧ ((x1 = (3 : Int)) ∧ (x2 = (3 : Int))))) (h1 : (((0 : Int) ≤ x2) ∧ (x2 ≤ (1000000 : Int)))) : (((0 : Int) ≤ (1 : Int)) ∧ ((1 : Int) < x2)) := by omega
theorem q_4216 {x0 x1 x2 : Int} (h0 : ((x0 = (3 : Int)) ∧ ((x1 = (3 : Int)) ∧ (x2 = (3 : Int))))) (h1 : (((0 : Int) ≤ x0) ∧ (x0 ≤ (1000000 : Int)))) : (((0 : Int) ≤ (1 : Int)) ∧ ((1 : Int) < x0)) := by omega
theorem q_4217 {x0 x1 x2 x3 : Int} (h0 : ((0 : Int) ≤ x0)) (h1 : (x1 = (8 : Int))) (h2 : (((x0 = (-(1 : Int))) ∧ (x2 = x3)) ∨ (((5 : Int) ≤ x2) ∧ (x2 ≤ x1)))) (h3 : (((-(2147483648 : Int)) ≤ x2) ∧ (x2 ≤ (2147483647 : Int)))) : (x2 ≤ (8 : Int)) := by omega
theorem q_4218 {x0 x1 x2 x3 : Int} (h0 : ((x0 % (256 : Int)) ≤ x1)) (h1 : (x2 = (31 : Int))) (h2 : ((x2 + (1 : Int)) = x3)) (h3 : (x1 = (31 : Int))) : (((0 : Int) ≤ (x0 % (256 : Int))) ∧ ((x0 % (256 : Int)) < x3)) := by omega
theorem q_4219 {x0 x1 x2 : Int} (h0 : ((x0 = (3 : Int)) ∧ ((x1 = (3 : Int)) ∧ (x2 = (3 : Int))))) (h1 : (((0 : Int) ≤ x1) ∧ (x1 ≤ (1000000 : Int)))) : (((0 : Int) ≤ (1 : Int)) ∧ ((1 : Int) < x1)) := by omega
theorem q_4220 {x0 : Int} : (((1 : Int) = (2 : Int)) ∨ (x0 = x0)) := by omega
theorem q_4221 {x0 : Int} : (((1 : Int) = (1 : Int)) ∨ (x0 = x0)) := by omega
theorem q_4222 {x0 : Int} : (((1 : Int) = (0 : Int)) ∨ (x0 = x0)) := by omega
theorem q_4223 {x0 x1 x2 : Int} (h0 : ((x0 = (3 : Int)) ∧ ((x1 = (3 : Int)) ∧ (x2 = (3 : Int))))) : (((0 : Int) ≤ (2 : Int)) ∧ ((2 : Int) < x2)) := by omega
theorem q_4224 {x0 x1 x2 : Int} (h0 : ((x0 = (3 : Int)) ∧ ((x1 = (3 : Int)) ∧ (x2 = (3 : Int))))) : (((0 : Int) ≤ (2 : Int)) ∧ ((2 : Int) < x0)) := by omega
theorem q_4225 {x0 x1 x2 x3 : Int} (h0 : ((x0 % (256 : Int)) ≤ x1)) (h1 : (x2 = (52 : Int))) (h2 : ((x2 + (1 : Int)) = x3)) (h3 : (x1 = (52 : Int))) : (((0 : Int) ≤ (x0 % (256 : Int))) ∧ ((x0 % (256 : Int)) < x3)) := by omega
theorem q_4226 {x0 x1 x2 : Int} (h0 : ((x0 = (3 : Int)) ∧ ((x1 = (3 : Int)) ∧ (x2 = (3 : Int))))) : (((0 : Int) ≤ (2 : Int)) ∧ ((2 : Int) < x1)) := by omega
theorem q_4227 {x0 : Int} : (((2 : Int) = (2 : Int)) ∨ (x0 = x0)) := by omega
theorem q_4228 {x0 : Int} : (((2 : Int) = (1 : Int)) ∨ (x0 = x0)) := by omega
theorem q_4229 {x0 : Int} : (((2 : Int) = (0 : Int)) ∨ (x0 = x0)) := by omega
theorem q_4230 {x0 x1 x2 : Int} (h0 : (x0 < x1)) (h1 : ((x0 ≤ x1) ∧ (x1 ≤ x2))) : (((x0 + (1 : Int)) ≤ x1) ∧ (x1 ≤ x2)) := by omega
theorem q_4231 {x0 x1 x2 x3 : Int} (h0 : (x0 < x1)) (h1 : (((0 : Int) ≤ x0) ∧ ((x0 ≤ x2) ∧ ((x2 ≤ x3) ∧ (x3 ≤ (65536 : Int)))))) (h2 : ((x0 ≤ x1) ∧ (x1 ≤ x2))) : (((0 : Int) ≤ (x0 + (1 : Int))) ∧ (((x0 + (1 : Int)) ≤ x2) ∧ ((x2 ≤ x3) ∧ (x3 ≤ (65536 : Int))))) := by omega
theorem q_4232 {x0 x1 x2 x3 : Int} (h0 : (x0 ≤ x1)) (h1 : (((0 : Int) ≤ x2) ∧ ((x1 ≤ x2) ∧ (x2 ≤ x3)))) : (x0 ≤ x2) := by omega
theorem q_4233 {x0 x1 x2 x3 : Int} (h0 : (((0 : Int) ≤ x0) ∧ ((x0 ≤ x1) ∧ ((x1 ≤ x2) ∧ (x2 ≤ (65536 : Int)))))) (h1 : (((0 : Int) ≤ x3) ∧ ((x0 ≤ x3) ∧ (x3 ≤ x1)))) : (((0 : Int) ≤ x3) ∧ ((x3 ≤ x1) ∧ ((x1 ≤ x2) ∧ (x2 ≤ (65536 : Int))))) := by omega
theorem q_4234 {x0 x1 x2 : Int} (h0 : (x0 = (15 : Int))) : ((x0 ≠ (0 : Int)) ∨ (x1 = x2)) := by omega
theorem q_4235 {x0 : Int} (h0 : (x0 = (15 : Int))) : (((0 : Int) ≤ x0) ∧ (x0 ≤ (17 : Int))) := by omega
theorem q_4236 {x0 : Int} (h0 : (x0 = (10 : Int))) (h1 : (((0 : Int) ≤ x0) ∧ (x0 ≤ (1000000 : Int)))) : (((0 : Int) ≤ (7 : Int)) ∧ ((7 : Int) < x0)) := by omega
theorem q_4237 {x0 : Int} (h0 : (x0 = (10 : Int))) (h1 : (((0 : Int) ≤ x0) ∧ (x0 ≤ (1000000 : Int)))) : (((0 : Int) ≤ (8 : Int)) ∧ ((8 : Int) < x0)) := by omega
theorem q_4238 {x0 x1 : Int} (h0 : (x0 = x1)) (h1 : (((0 : Int) ≤ x0) ∧ (x0 ≤ (11 : Int)))) : (((0 : Int) ≤ ((10 : Int) + x1)) ∧ (((10 : Int) + x1) ≤ (31 : Int))) := by omega
theorem q_4239 {x0 : Int} (h0 : (((0 : Int) ≤ x0) ∧ (x0 ≤ (16384 : Int)))) : (((0 : Int) ≤ x0) ∧ (x0 ≤ (2097152 : Int))) := by omega
theorem q_4240 {x0 x1 : Int} (h0 : (((x0 < (131072 : Int)) ∧ (x1 = x0)) ∨ ((¬ (x0 < (131072 : Int))) ∧ (x1 = (131072 : Int))))) (h1 : (((0 : Int) ≤ x0) ∧ (x0 ≤ (2097152 : Int)))) : (inr x1) := by omega
theorem q_4241 {x0 x1 x2 x3 : Int} (h0 : (((x0 < (131072 : Int)) ∧ (x1 = x0)) ∨ ((¬ (x0 < (131072 : Int))) ∧ (x1 = (131072 : Int))))) (h1 : (((x1 < x2) ∧ (x3 = x1)) ∨ ((¬ (x1 < x2)) ∧ (x3 = x2)))) (h2 : (((0 : Int) ≤ x0) ∧ (x0 ≤ (2097152 : Int)))) (h3 : (inr x2)) : (inr x3) := by omega
theorem q_4242 {x0 x1 x2 x3 x4 : Int} (h0 : (x0 = x1)) (h1 : (((x2 < x1) ∧ (x3 = x2)) ∨ ((¬ (x2 < x1)) ∧ (x3 = x1)))) (h2 : ((((1 : Int) < x3) ∧ (x4 = x3)) ∨ ((¬ ((1 : Int) < x3)) ∧ (x4 = (1 : Int))))) (h3 : (((1 : Int) ≤ x0) ∧ (x0 ≤ (65536 : Int)))) : (((1 : Int) ≤ x4) ∧ (x4 ≤ (65536 : Int))) := by omega
theorem q_4243 {x0 x1 x2 x3 : Int} (h0 : (((x0 < x1) ∧ (x2 = x0)) ∨ ((¬ (x0 < x1)) ∧ (x2 = x1)))) (h1 : ((((1 : Int) < x2) ∧ (x3 = x2)) ∨ ((¬ ((1 : Int) < x2)) ∧ (x3 = (1 : Int))))) (h2 : (inr x1)) : (inr x3) := by omega
theorem q_4244 : (inrJ (-(47205080 : Int))) := by omega
theorem q_4247 {x0 : Int} (h0 : (((0 : Int) ≤ x0) ∧ (x0 ≤ (2 : Int)))) : (((0 : Int) ≤ x0) ∧ (x0 ≤ (31 : Int))) := by omega
theorem q_4251 {x0 x1 : Int} : (((x0 + (1 : Int)) ≤ (x0 + (1 : Int))) ∨ ((x0 + (1 : Int)) ≤ x1)) := by omega
theorem q_4252 {x0 x1 x2 : Int} (h0 : (((0 : Int) ≤ x0) ∧ ((x0 ≤ (65536 : Int)) ∧ ((x1 ≤ x2) ∧ (x2 ≤ (65536 : Int)))))) : (inr (x0 + (1 : Int))) := by omega
theorem q_4253 {x0 x1 x2 x3 : Int} (h0 : (x0 < x1)) (h1 : (((0 : Int) ≤ x2) ∧ ((x2 ≤ (65536 : Int)) ∧ ((x1 ≤ x3) ∧ (x3 ≤ (65536 : Int)))))) (h2 : ((x2 + (1 : Int)) ≤ x0)) : (((0 : Int) ≤ x0) ∧ (x0 < x3)) := by omega
theorem q_4254 {x0 x1 x2 x3 : Int} (h0 : (x0 < x1)) (h1 : (((0 : Int) ≤ x2) ∧ ((x2 ≤ (65536 : Int)) ∧ ((x1 ≤ x3) ∧ (x3 ≤ (65536 : Int)))))) (h2 : ((x2 + (1 : Int)) ≤ x0)) (h3 : (((0 : Int) ≤ x3) ∧ (x3 ≤ (1000000 : Int)))) : (((0 : Int) ≤ x2) ∧ (x2 < x3)) := by omega
theorem q_4255 {x0 x1 : Int} (h0 : ((x0 + (1 : Int)) ≤ x1)) : ((x0 + (1 : Int)) ≤ (x1 + (1 : Int))) := by omega
theorem q_4256 {x0 x1 x2 : Int} (h0 : (x0 < x1)) : (((x0 + (1 : Int)) ≤ (x2 + (1 : Int))) ∨ ((x0 + (1 : Int)) ≤ x1)) := by omega
theorem q_4257 {x0 x1 x2 x3 : Int} (h0 : (x0 < x1)) (h1 : (((0 : Int) ≤ x2) ∧ ((x2 ≤ (65536 : Int)) ∧ ((x1 ≤ x3) ∧ (x3 ≤ (65536 : Int)))))) (h2 : (inr x0)) : (inr (x0 + (1 : Int))) := by omega
theorem q_4258 : (((0 : Int) ≤ ((36 : Int) - (1 : Int))) ∧ (((36 : Int) - (1 : Int)) < (36 : Int))) := by omega
theorem q_4259 : (inr ((36 : Int) - (1 : Int))) := by omega
theorem q_4260 {x0 : Int} (h0 : ((0 : Int) < x0)) (h1 : (((0 : Int) ≤ x0) ∧ (x0 < (36 : Int)))) : (((0 : Int) ≤ (x0 + (-(1 : Int)))) ∧ ((x0 + (-(1 : Int))) < (36 : Int))) := by omega
theorem q_4261 {x0 : Int} (h0 : ((0 : Int) < x0)) (h1 : (((0 : Int) ≤ x0) ∧ (x0 < (36 : Int)))) : (inr (x0 + (-(1 : Int)))) := by omega
theorem q_4262 : (((0 : Int) ≤ ((53 : Int) - (1 : Int))) ∧ (((53 : Int) - (1 : Int)) < (53 : Int))) := by omega
theorem q_4263 : (inr ((53 : Int) - (1 : Int))) := by omega
theorem q_4264 {x0 : Int} (h0 : ((0 : Int) < x0)) (h1 : (((0 : Int) ≤ x0) ∧ (x0 < (53 : Int)))) : (((0 : Int) ≤ (x0 + (-(1 : Int)))) ∧ ((x0 + (-(1 : Int))) < (53 : Int))) := by omega
theorem q_4265 {x0 : Int} (h0 : ((0 : Int) < x0)) (h1 : (((0 : Int) ≤ x0) ∧ (x0 < (53 : Int)))) : (inr (x0 + (-(1 : Int)))) := by omega
theorem q_4266 {x0 x1 x2 x3 x4 : Int} (h0 : (((0 : Int) ≤ x0) ∧ ((x0 < x1) ∧ ((x0 < x2) ∧ (x0 < x3))))) (h1 : (x0 < x4)) : (((0 : Int) ≤ x0) ∧ (x0 < x4)) := by omega
theorem q_4267 {x0 x1 x2 x3 : Int} (h0 : (((0 : Int) ≤ x0) ∧ ((x0 < x1) ∧ ((x0 < x2) ∧ (x0 < x3))))) : (((0 : Int) ≤ x0) ∧ (x0 < x2)) := by omega
theorem q_4268 {x0 x1 : Int} (h0 : (x0 = x1)) (h1 : (((0 : Int) ≤ x0) ∧ (x0 ≤ (35 : Int)))) : (((0 : Int) ≤ x1) ∧ (x1 < (36 : Int))) := by omega
theorem q_4269 {x0 x1 x2 x3 : Int} (h0 : (((0 : Int) ≤ x0) ∧ ((x0 < x1) ∧ ((x0 < x2) ∧ (x0 < x3))))) : (((0 : Int) ≤ x0) ∧ (x0 < x3)) := by omega
theorem q_4270 {x0 x1 : Int} (h0 : (x0 = x1)) (h1 : (((0 : Int) ≤ x0) ∧ (x0 ≤ (52 : Int)))) : (((0 : Int) ≤ x1) ∧ (x1 < (53 : Int))) := by omega
theorem q_4271 {x0 x1 x2 x3 : Int} (h0 : (((0 : Int) ≤ x0) ∧ ((x0 < x1) ∧ ((x0 < x2) ∧ (x0 < x3))))) : (((0 : Int) ≤ x0) ∧ (x0 < x1)) := by omega
theorem q_4272 {x0 x1 : Int} (h0 : (x0 = x1)) (h1 : (((0 : Int) ≤ x0) ∧ (x0 ≤ (31 : Int)))) : (((0 : Int) ≤ x1) ∧ (x1 ≤ (31 : Int))) := by omega
theorem q_4273 {x0 x1 x2 x3 : Int} (h0 : (x0 ≤ x1)) (h1 : (x1 ≤ x2)) (h2 : (x2 ≤ x3)) : (x0 ≤ x3) := by omega
theorem q_4274 {x0 x1 : Int} (h0 : ((x0 = (13 : Int)) ∧ (x1 = (3 : Int)))) (h1 : (((0 : Int) ≤ x0) ∧ (x0 ≤ (1000000 : Int)))) : (((0 : Int) ≤ (3 : Int)) ∧ ((3 : Int) < x0)) := by omega
theorem q_4275 {x0 x1 : Int} (h0 : ((x0 = (13 : Int)) ∧ (x1 = (3 : Int)))) (h1 : (((0 : Int) ≤ x0) ∧ (x0 ≤ (1000000 : Int)))) : (((0 : Int) ≤ (4 : Int)) ∧ ((4 : Int) < x0)) := by omega
theorem q_4276 {x0 x1 x2 : Int} (h0 : ((x0 = (13 : Int)) ∧ (x1 = (3 : Int)))) (h1 : (((0 : Int) ≤ x2) ∧ (x2 ≤ (3 : Int)))) (h2 : (((0 : Int) ≤ x0) ∧ (x0 ≤ (1000000 : Int)))) : (((0 : Int) ≤ ((5 : Int) + x2)) ∧ (((5 : Int) + x2) < x0)) := by omega
theorem q_4277 {x0 : Int} : (((0 : Int) = (0 : Int)) ∨ ((1 : Int) ≤ x0)) := by omega
theorem q_4278 {x0 x1 x2 : Int} (h0 : (x0 < (3 : Int))) (h1 : ((x1 = (13 : Int)) ∧ (x2 = (3 : Int)))) (h2 : (((0 : Int) ≤ x0) ∧ (x0 ≤ (3 : Int)))) : (((0 : Int) ≤ x0) ∧ (x0 < x2)) := by omega
theorem q_4279 {x0 x1 : Int} (h0 : ((0 : Int) < x0)) : (((x1 + (1 : Int)) = (0 : Int)) ∨ ((1 : Int) ≤ x0)) := by omega
theorem q_4280 {x0 x1 : Int} (h0 : (inr x0)) (h1 : (((x1 ≥ (1024 : Int)) ∧ (x0 = (4 : Int))) ∨ ((x1 < (1024 : Int)) ∧ (x0 = (1 : Int))))) : ((inr x0) ∧ ((0 : Int) < x0)) := by omega
theorem q_4281 {x0 x1 x2 : Int} (h0 : (((0 : Int) ≤ x0) ∧ ((x0 ≤ x1) ∧ (x1 ≤ (65536 : Int))))) (h1 : (((x0 ≥ (1024 : Int)) ∧ (x2 = (4 : Int))) ∨ ((x0 < (1024 : Int)) ∧ (x2 = (1 : Int))))) : ((inr ((x0 + x2) - (1 : Int))) ∧ ((0 : Int) ≤ ((x0 + x2) - (1 : Int)))) := by omega
theorem q_4282 {x0 x1 x2 x3 : Int} (h0 : (((0 : Int) ≤ x0) ∧ (x0 ≤ (65536 : Int)))) (h1 : (((x1 = (1 : Int)) ∧ (x2 = x0)) ∨ ((x1 = (4 : Int)) ∧ (x2 = (x0 + (6 : Int)))))) (h2 : (((x1 ≠ (4 : Int)) ∧ (x3 = (0 : Int))) ∨ ((x1 = (4 : Int)) ∧ (x3 = (6 : Int))))) : (((0 : Int) ≤ (x0 + x3)) ∧ ((x0 + x3) ≤ ((65542 : Int) + ((100000 : Int) * (0 : Int))))) := by omega
theorem q_4283 {x0 x1 x2 x3 : Int} (h0 : (((0 : Int) ≤ x0) ∧ (x0 ≤ (65536 : Int)))) (h1 : (((x1 = (1 : Int)) ∧ (x2 = x0)) ∨ ((x1 = (4 : Int)) ∧ (x2 = (x0 + (6 : Int)))))) (h2 : (inr x3)) (h3 : (((x1 ≠ (4 : Int)) ∧ (x3 = (0 : Int))) ∨ ((x1 = (4 : Int)) ∧ (x3 = (6 : Int))))) : (inr (x0 + x3)) := by omega
theorem q_4284 {x0 x1 : Int} (h0 : (x0 < (16384 : Int))) (h1 : (((0 : Int) ≤ x0) ∧ (x0 ≤ ((65542 : Int) + ((100000 : Int) * x1))))) : (((0 : Int) ≤ (x0 + (4 : Int))) ∧ ((x0 + (4 : Int)) ≤ (1000000 : Int))) := by omega
theorem q_4285 {x0 x1 : Int} (h0 : (x0 < (16384 : Int))) (h1 : (((0 : Int) ≤ x0) ∧ (x0 ≤ ((65542 : Int) + ((100000 : Int) * x1))))) : (inr (x0 + (4 : Int))) := by omega
theorem q_4286 : (((0 : Int) ≤ (0 : Int)) ∧ ((0 : Int) ≤ (1000000 : Int))) := by omega
theorem q_4287 {x0 x1 : Int} (h0 : (x0 < (1024 : Int))) (h1 : (((0 : Int) ≤ x0) ∧ (x0 ≤ ((65542 : Int) + ((100000 : Int) * x1))))) : (((0 : Int) ≤ (x0 + (3 : Int))) ∧ ((x0 + (3 : Int)) ≤ (1000000 : Int))) := by omega
theorem q_4288 {x0 x1 : Int} (h0 : (x0 < (1024 : Int))) (h1 : (((0 : Int) ≤ x0) ∧ (x0 ≤ ((65542 : Int) + ((100000 : Int) * x1))))) : (inr (x0 + (3 : Int))) := by omega
theorem q_4289 {x0 x1 : Int} (h0 : (((0 : Int) ≤ (((x0 + x1) - (1 : Int)) / x1)) ∧ ((((x0 + x1) - (1 : Int)) / x1) ≤ (65536 : Int)))) : ((0 : Int) ≤ (((x0 + x1) - (1 : Int)) / x1)) := by omega
theorem q_4290 {x0 x1 x2 x3 : Int} (h0 : (x0 < x1)) (h1 : (((x1 = (1 : Int)) ∧ (x2 = x3)) ∨ ((x1 = (4 : Int)) ∧ (x2 = (x3 + (6 : Int)))))) (h2 : ((x0 ≤ (0 : Int)) ∨ (x0 ≤ x1))) : (x0 ≤ (3 : Int)) := by omega
theorem q_4291 {x0 x1 x2 : Int} (h0 : (((0 : Int) ≤ x0) ∧ (x0 ≤ ((65542 : Int) + ((100000 : Int) * x1))))) (h1 : (((0 : Int) ≤ x2) ∧ (x2 ≤ (100000 : Int)))) : (((0 : Int) ≤ (x0 + x2)) ∧ ((x0 + x2) ≤ ((65542 : Int) + ((100000 : Int) * (x1 + (1 : Int)))))) := by omega
theorem q_4292 {x0 x1 : Int} (h0 : (((0 : Int) ≤ x0) ∧ (x0 ≤ ((65542 : Int) + ((100000 : Int) * x1))))) : ((0 : Int) ≤ (x1 + (1 : Int))) := by omega
theorem q_4293 {x0 x1 x2 x3 x4 : Int} (h0 : (x0 < x1)) (h1 : (((x1 = (1 : Int)) ∧ (x2 = x3)) ∨ ((x1 = (4 : Int)) ∧ (x2 = (x3 + (6 : Int)))))) (h2 : ((x0 ≤ (0 : Int)) ∨ (x0 ≤ x1))) (h3 : (((0 : Int) ≤ x4) ∧ (x4 ≤ ((65542 : Int) + ((100000 : Int) * x0))))) : (inr (x0 + (1 : Int))) := by omega
theorem q_4294 {x0 : Int} (h0 : (x0 ≠ (4 : Int))) : (((x0 ≠ (4 : Int)) ∧ ((0 : Int) = (0 : Int))) ∨ ((x0 = (4 : Int)) ∧ ((0 : Int) = (6 : Int)))) := by omega
theorem q_4295 {x0 : Int} (h0 : (x0 = (4 : Int))) : (((x0 ≠ (4 : Int)) ∧ ((6 : Int) = (0 : Int))) ∨ ((x0 = (4 : Int)) ∧ ((6 : Int) = (6 : Int)))) := by omega
theorem q_4296 {x0 : Int} (h0 : ((1024 : Int) ≤ x0)) : (((x0 ≥ (1024 : Int)) ∧ ((4 : Int) = (4 : Int))) ∨ ((x0 < (1024 : Int)) ∧ ((4 : Int) = (1 : Int)))) := by omega
theorem q_4297 {x0 : Int} (h0 : (x0 < (1024 : Int))) : (((x0 ≥ (1024 : Int)) ∧ ((1 : Int) = (4 : Int))) ∨ ((x0 < (1024 : Int)) ∧ ((1 : Int) = (1 : Int)))) := by omega
theorem q_4298 {x0 x1 x2 : Int} (h0 : (((0 : Int) ≤ x0) ∧ ((x0 ≤ x1) ∧ ((x1 ≤ x2) ∧ (x2 ≤ (65536 : Int)))))) (h1 : (x0 < x1)) : (((0 : Int) ≤ x0) ∧ (((0 : Int) ≤ x1) ∧ ((x1 ≤ x2) ∧ ((x2 ≤ (65536 : Int)) ∧ (x0 ≤ (200000 : Int)))))) := by omega
theorem q_4299 {x0 x1 x2 : Int} (h0 : (((0 : Int) ≤ x0) ∧ ((x0 ≤ x1) ∧ ((x1 ≤ x2) ∧ (x2 ≤ (65536 : Int)))))) (h1 : (x0 < x1)) : (inr x1) := by omega
theorem q_4300 {x0 x1 x2 : Int} (h0 : (((0 : Int) ≤ x0) ∧ ((x0 ≤ x1) ∧ ((x1 ≤ x2) ∧ (x2 ≤ (65536 : Int)))))) (h1 : (x0 < x1)) : (inr x0) := by omega
theorem q_4301 {x0 x1 x2 : Int} (h0 : (((0 : Int) ≤ x0) ∧ ((x0 ≤ x1) ∧ ((x1 ≤ x2) ∧ (x2 ≤ (65536 : Int)))))) (h1 : (x0 < x1)) : (inr (x1 - x0)) := by omega
theorem q_4302 : (inr (-(47205080 : Int))) := by omega
theorem q_4303 {x0 x1 x2 : Int} (h0 : ((4 : Int) ≤ (x0 - x1))) (h1 : (((0 : Int) ≤ x1) ∧ ((x1 ≤ x0) ∧ ((x0 ≤ x2) ∧ (x2 ≤ (65536 : Int)))))) : (inr x0) := by omega
theorem q_4304 {x0 x1 x2 : Int} (h0 : ((4 : Int) ≤ (x0 - x1))) (h1 : (((0 : Int) ≤ x1) ∧ ((x1 ≤ x0) ∧ ((x0 ≤ x2) ∧ (x2 ≤ (65536 : Int)))))) : (inr (x1 + (4 : Int))) := by omega
theorem q_4305 {x0 : Int} (h0 : (((0 : Int) ≤ x0) ∧ (x0 ≤ (1000000 : Int)))) (h1 : (x0 = (5 : Int))) : (((0 : Int) ≤ (0 : Int)) ∧ ((0 : Int) < x0)) := by omega
theorem q_4306 {x0 x1 x2 x3 x4 : Int} (h0 : (inr x0)) (h1 : ((x1 + (4 : Int)) < x2)) (h2 : (x3 = x0)) (h3 : (((0 : Int) ≤ x1) ∧ ((x1 ≤ x2) ∧ ((x2 ≤ x4) ∧ (x4 ≤ (65536 : Int)))))) (h4 : (((0 : Int) ≤ x3) ∧ (x3 ≤ x1))) : (inr (x0 + (1 : Int))) := by omega
theorem q_4307 {x0 x1 x2 : Int} (h0 : ((x0 + (4 : Int)) < x1)) (h1 : (((0 : Int) ≤ x0) ∧ ((x0 ≤ x1) ∧ ((x1 ≤ x2) ∧ (x2 ≤ (65536 : Int)))))) : (((0 : Int) ≤ (x0 + (4 : Int))) ∧ ((x0 + (4 : Int)) < x2)) := by omega
theorem q_4308 {x0 x1 x2 : Int} (h0 : ((x0 + (4 : Int)) < x1)) (h1 : (((0 : Int) ≤ x0) ∧ ((x0 ≤ x1) ∧ ((x1 ≤ x2) ∧ (x2 ≤ (65536 : Int)))))) : (((-(2147483648 : Int)) ≤ ((x0 + (4 : Int)) + (1 : Int))) ∧ (((x0 + (4 : Int)) + (1 : Int)) ≤ (2147483647 : Int))) := by omega
theorem q_4309 {x0 x1 x2 x3 : Int} (h0 : ((x0 = (3 : Int)) ∧ ((x1 = (3 : Int)) ∧ ((x2 = (3 : Int)) ∧ (x3 = (3 : Int)))))) : ((x2 = (3 : Int)) ∧ (x3 = (3 : Int))) := by omega
theorem q_4310 {x0 x1 x2 x3 : Int} (h0 : ((x0 = (3 : Int)) ∧ ((x1 = (3 : Int)) ∧ ((x2 = (3 : Int)) ∧ (x3 = (3 : Int)))))) : ((x0 = (3 : Int)) ∧ (x1 = (3 : Int))) := by omega
theorem q_4311 {x0 x1 x2 x3 : Int} : ((x0 ≠ (0 : Int)) ∨ ((x1 = x2) ∨ (x3 = x3))) := by omega
theorem q_4312 {x0 x1 x2 : Int} (h0 : (x0 = x1)) (h1 : (x2 = x0)) : (x2 = x1) := by omega
theorem q_4313 {x0 x1 x2 x3 : Int} (h0 : ((x0 + (5 : Int)) ≤ x1)) (h1 : (((0 : Int) ≤ x2) ∧ ((x1 ≤ x2) ∧ (x2 ≤ x3)))) : (((0 : Int) ≤ x2) ∧ ((x0 ≤ x2) ∧ (x2 ≤ x3))) := by omega
theorem q_4314 {x0 x1 x2 x3 : Int} (h0 : (x0 ≠ (0 : Int))) : ((x0 ≠ (0 : Int)) ∨ ((x1 = x2) ∨ (x3 = x3))) := by omega
theorem q_4315 {x0 x1 x2 x3 : Int} (h0 : (((0 : Int) ≤ x0) ∧ ((x0 ≤ x1) ∧ ((x1 ≤ x2) ∧ (x2 ≤ (65536 : Int)))))) (h1 : ((x3 + (5 : Int)) ≤ x0)) : (((0 : Int) ≤ x0) ∧ ((x3 ≤ x0) ∧ (x0 ≤ x1))) := by omega
theorem q_4316 {x0 x1 x2 x3 : Int} (h0 : ((x0 + (5 : Int)) ≤ x1)) (h1 : (((0 : Int) ≤ x2) ∧ ((x1 ≤ x2) ∧ (x2 ≤ x3)))) : ((x0 + (5 : Int)) ≤ x2) := by omega
theorem q_4317 {x0 x1 x2 : Int} (h0 : ((x0 + (4 : Int)) < x1)) (h1 : (((0 : Int) ≤ x0) ∧ ((x0 ≤ x1) ∧ ((x1 ≤ x2) ∧ (x2 ≤ (65536 : Int)))))) : (((0 : Int) ≤ ((x0 + (4 : Int)) + (1 : Int))) ∧ ((((x0 + (4 : Int)) + (1 : Int)) ≤ x1) ∧ ((x1 ≤ x2) ∧ (x2 ≤ (65536 : Int))))) := by omega
theorem q_4318 {x0 x1 x2 : Int} (h0 : (x0 = (x1 + (1 : Int)))) (h1 : (x2 = x0)) : (x2 = (x1 + (1 : Int))) := by omega
theorem q_4319 {x0 x1 x2 : Int} (h0 : (((0 : Int) ≤ x0) ∧ ((((x1 + (4 : Int)) + (1 : Int)) ≤ x0) ∧ (x0 ≤ x2)))) : ((x1 + (5 : Int)) ≤ x0) := by omega
theorem q_4320 {x0 x1 x2 x3 : Int} (h0 : (((0 : Int) ≤ x0) ∧ ((x0 ≤ x1) ∧ ((x1 ≤ x2) ∧ (x2 ≤ (65536 : Int)))))) (h1 : (((0 : Int) ≤ x3) ∧ ((((x0 + (4 : Int)) + (1 : Int)) ≤ x3) ∧ (x3 ≤ x1)))) : (((0 : Int) ≤ x3) ∧ ((x3 ≤ x1) ∧ ((x1 ≤ x2) ∧ (x2 ≤ (65536 : Int))))) := by omega
theorem q_4321 {x0 : Int} : ((x0 + (5 : Int)) ≤ ((x0 + (4 : Int)) + (1 : Int))) := by omega
theorem q_4322 {x0 x1 x2 : Int} (h0 : ((x0 + (4 : Int)) < x1)) (h1 : (((0 : Int) ≤ x0) ∧ ((x0 ≤ x1) ∧ ((x1 ≤ x2) ∧ (x2 ≤ (65536 : Int)))))) : (inr (x0 + (4 : Int))) := by omega
theorem q_4323 {x0 x1 x2 x3 x4 : Int} (h0 : (x0 = (3 : Int))) : ((x0 ≠ (0 : Int)) ∨ ((x1 = x2) ∨ (x3 = x4))) := by omega
theorem q_4324 {x0 x1 x2 : Int} (h0 : ((x0 + (4 : Int)) < x1)) (h1 : (((0 : Int) ≤ x0) ∧ ((x0 ≤ x1) ∧ ((x1 ≤ x2) ∧ (x2 ≤ (65536 : Int)))))) : (((0 : Int) ≤ (x0 + (4 : Int))) ∧ ((x0 ≤ (x0 + (4 : Int))) ∧ ((x0 + (4 : Int)) ≤ x1))) := by omega
theorem q_4325 {x0 : Int} (h0 : (x0 = (3 : Int))) : (((0 : Int) ≤ x0) ∧ (x0 ≤ (17 : Int))) := by omega
theorem q_4326 {x0 x1 x2 x3 : Int} (h0 : (x0 = (1 : Int))) : ((x0 ≠ (0 : Int)) ∨ ((x1 = x1) ∨ (x2 = x3))) := by omega
theorem q_4327 {x0 x1 x2 x3 : Int} (h0 : (x0 = (2 : Int))) : ((x0 ≠ (0 : Int)) ∨ ((x1 = x1) ∨ (x2 = x3))) := by omega
theorem q_4328 {x0 : Int} (h0 : (x0 = (2 : Int))) : (((0 : Int) ≤ x0) ∧ (x0 ≤ (17 : Int))) := by omega
theorem q_4329 {x0 x1 x2 : Int} : (((0 : Int) ≠ (0 : Int)) ∨ ((x0 = x0) ∨ (x1 = x2))) := by omega
theorem q_4330 {x0 x1 x2 x3 x4 : Int} (h0 : ((0 : Int) ≤ x0)) (h1 : (((0 : Int) ≤ x1) ∧ ((x1 ≤ x2) ∧ ((x2 ≤ x3) ∧ (x3 ≤ (65536 : Int)))))) (h2 : (x1 < x2)) (h3 : ((x0 = (-(1 : Int))) ∨ (((x1 + (8 : Int)) ≤ x0) ∧ (x0 ≤ x2)))) (h4 : (((x0 ≥ (0 : Int)) ∧ (x4 = x0)) ∨ ((x0 < (0 : Int)) ∧ (x4 = x1)))) : (((0 : Int) ≤ x4) ∧ ((x1 ≤ x4) ∧ (x4 ≤ x2))) := by omega
theorem q_4331 {x0 x1 x2 x3 x4 : Int} (h0 : (x0 < (0 : Int))) (h1 : (((0 : Int) ≤ x1) ∧ ((x1 ≤ x2) ∧ ((x2 ≤ x3) ∧ (x3 ≤ (65536 : Int)))))) (h2 : (x1 < x2)) (h3 : (((x0 ≥ (0 : Int)) ∧ (x4 = x0)) ∨ ((x0 < (0 : Int)) ∧ (x4 = x1)))) : (((0 : Int) ≤ x4) ∧ ((x1 ≤ x4) ∧ (x4 ≤ x2))) := by omega
theorem q_4332 {x0 x1 : Int} (h0 : ((0 : Int) ≤ x0)) : (((x0 ≥ (0 : Int)) ∧ (x0 = x0)) ∨ ((x0 < (0 : Int)) ∧ (x0 = x1))) := by omega
theorem q_4333 {x0 x1 : Int} (h0 : (x0 < (0 : Int))) : (((x0 ≥ (0 : Int)) ∧ (x1 = x0)) ∨ ((x0 < (0 : Int)) ∧ (x1 = x1))) := by omega
theorem q_4334 {x0 x1 : Int} (h0 : (((0 : Int) ≤ x0) ∧ (x0 ≤ (1000000 : Int)))) (h1 : ((x1 = (53 : Int)) ∧ (x0 = (3 : Int)))) : (((0 : Int) ≤ (0 : Int)) ∧ ((0 : Int) < x0)) := by omega
theorem q_4335 {x0 x1 x2 : Int} (h0 : (x0 < x1)) (h1 : (((0 : Int) ≤ x1) ∧ ((x1 ≤ x2) ∧ (x2 ≤ (65536 : Int))))) (h2 : ((0 : Int) ≤ x0)) : (((0 : Int) ≤ x0) ∧ (x0 < x2)) := by omega
theorem q_4336 {x0 x1 x2 x3 : Int} (h0 : (((0 : Int) ≤ x0) ∧ (x0 ≤ x1))) (h1 : (((x2 ≠ (0 : Int)) ∧ (x3 = (0 : Int))) ∨ ((x2 = (0 : Int)) ∧ (x3 = (1 : Int))))) : (((0 : Int) ≤ (x0 + x3)) ∧ ((x0 + x3) ≤ (x1 + (1 : Int)))) := by omega
theorem q_4337 {x0 x1 x2 : Int} (h0 : (x0 < x1)) (h1 : (((0 : Int) ≤ x1) ∧ ((x1 ≤ x2) ∧ (x2 ≤ (65536 : Int))))) (h2 : ((0 : Int) ≤ x0)) : (inr (x0 + (1 : Int))) := by omega
theorem q_4338 {x0 x1 x2 x3 x4 x5 : Int} (h0 : (x0 < x1)) (h1 : (((0 : Int) ≤ x1) ∧ ((x1 ≤ x2) ∧ (x2 ≤ (65536 : Int))))) (h2 : (inr x3)) (h3 : (((0 : Int) ≤ x3) ∧ (x3 ≤ x0))) (h4 : (inr x4)) (h5 : (((x5 ≠ (0 : Int)) ∧ (x4 = (0 : Int))) ∨ ((x5 = (0 : Int)) ∧ (x4 = (1 : Int))))) : (inr (x3 + x4)) := by omega
theorem q_4339 {x0 : Int} (h0 : (x0 ≠ (0 : Int))) : (((x0 ≠ (0 : Int)) ∧ ((0 : Int) = (0 : Int))) ∨ ((x0 = (0 : Int)) ∧ ((0 : Int) = (1 : Int)))) := by omega
theorem q_4340 {x0 : Int} (h0 : (x0 = (0 : Int))) : (((x0 ≠ (0 : Int)) ∧ ((1 : Int) = (0 : Int))) ∨ ((x0 = (0 : Int)) ∧ ((1 : Int) = (1 : Int)))) := by omega
theorem q_4341 {x0 x1 : Int} (h0 : (((0 : Int) ≤ x0) ∧ (x0 ≤ (1000000 : Int)))) (h1 : ((x1 = (53 : Int)) ∧ (x0 = (3 : Int)))) : (((0 : Int) ≤ (1 : Int)) ∧ ((1 : Int) < x0)) := by omega
theorem q_4342 {x0 x1 : Int} (h0 : ((x0 = (53 : Int)) ∧ (x1 = (3 : Int)))) : (((0 : Int) ≤ (2 : Int)) ∧ ((2 : Int) < x1)) := by omega
theorem q_4343 {x0 x1 x2 : Int} (h0 : ((x0 ≤ x1) ∧ (x2 = x0))) : (x2 = x0) := by omega
theorem q_4344 {x0 x1 : Int} : (((0 : Int) ≤ (0 : Int)) ∧ (((0 : Int) = (0 : Int)) ∨ (((5 : Int) ≤ (0 : Int)) ∧ (((0 : Int) ≤ (9 : Int)) ∧ (x0 ≤ x1))))) := by omega
theorem q_4345 {x0 : Int} : (((5 : Int) < (7 : Int)) ∨ (((0 : Int) ≠ (0 : Int)) ∨ (x0 ≠ (2147483647 : Int)))) := by omega
theorem q_4346 : (((5 : Int) ≤ (5 : Int)) ∧ ((5 : Int) ≤ ((9 : Int) + (1 : Int)))) := by omega
theorem q_4347 {x0 x1 : Int} (h0 : (x0 ≤ x1)) (h1 : (x1 = (9 : Int))) (h2 : (((5 : Int) ≤ x0) ∧ (x0 ≤ ((9 : Int) + (1 : Int))))) : (((5 : Int) ≤ (x0 + (1 : Int))) ∧ ((x0 + (1 : Int)) ≤ ((9 : Int) + (1 : Int)))) := by omega
theorem q_4348 {x0 : Int} (h0 : (((5 : Int) ≤ x0) ∧ (x0 ≤ ((9 : Int) + (1 : Int))))) : (inr (x0 + (1 : Int))) := by omega
theorem q_4349 {x0 : Int} : ((((9 : Int) + (1 : Int)) - (x0 + (1 : Int))) < (((9 : Int) + (1 : Int)) - x0)) := by omega
theorem q_4350 {x0 x1 : Int} (h0 : (x0 ≤ x1)) (h1 : (x1 = (9 : Int))) : ((0 : Int) < (((9 : Int) + (1 : Int)) - x0)) := by omega
theorem q_4351 {x0 : Int} (h0 : (((5 : Int) ≤ x0) ∧ (x0 ≤ ((9 : Int) + (1 : Int))))) : (((0 : Int) ≤ x0) ∧ (x0 ≤ (31 : Int))) := by omega
theorem q_4352 {x0 x1 x2 x3 x4 : Int} (h0 : (x0 < x1)) (h1 : (inr x2)) (h2 : (((0 : Int) ≤ x1) ∧ (x1 ≤ (53 : Int)))) (h3 : ((x3 < (6 : Int)) ∨ ((64 : Int) ≤ x0))) : ((x3 < (6 : Int)) ∨ ((x4 ≠ (0 : Int)) ∨ (x2 ≠ (2147483647 : Int)))) := by omega
theorem q_4353 {x0 x1 x2 x3 x4 : Int} (h0 : (((0 : Int) ≤ x0) ∧ (x0 ≤ (1000000 : Int)))) (h1 : (((0 : Int) ≤ x1) ∧ ((x1 ≤ x0) ∧ (x0 ≤ (65536 : Int))))) (h2 : ((x2 = (0 : Int)) ∧ ((x3 = (0 : Int)) ∧ (x4 = (0 : Int))))) : (((0 : Int) ≤ x2) ∧ ((x2 ≤ x0) ∧ (x0 ≤ (65536 : Int)))) := by omega
theorem q_4354 {x0 x1 x2 x3 x4 x5 x6 x7 x8 x9 x10 : Int} (h0 : (((0 : Int) ≤ x0) ∧ (x0 ≤ (1000000 : Int)))) (h1 : ((x0 = (53 : Int)) ∧ (x1 = (3 : Int)))) (h2 : (x2 = (36 : Int))) (h3 : ((x3 = x2) ∧ ((x4 = x2) ∧ ((x5 = x2) ∧ ((x6 = x2) ∧ ((x7 = x2) ∧ ((x8 = x9) ∧ ((x10 = x9) ∧ (x9 = (512 : Int)))))))))) : ((x2 ≤ x0) ∧ (x3 = x2)) := by omega
theorem q_4355 {x0 x1 x2 : Int} (h0 : (((5 : Int) ≤ x0) ∧ (x0 ≤ ((9 : Int) + (1 : Int))))) (h1 : (((0 : Int) ≤ x1) ∧ ((x1 ≤ x2) ∧ (x2 ≤ (65536 : Int))))) : (inr (((8 : Int) * x1) + x0)) := by omega
theorem q_4356 {x0 x1 x2 : Int} (h0 : (((5 : Int) ≤ x0) ∧ (x0 ≤ ((9 : Int) + (1 : Int))))) : ((x0 ≠ (0 : Int)) ∨ (x1 = x2)) := by omega
theorem q_4357 {x0 x1 x2 x3 : Int} (h0 : (x0 ≤ x1)) (h1 : (x2 ≤ x3)) (h2 : (x1 = (9 : Int))) (h3 : (((5 : Int) ≤ x0) ∧ (x0 ≤ ((9 : Int) + (1 : Int))))) : (((0 : Int) ≤ x0) ∧ ((x0 = (0 : Int)) ∨ (((5 : Int) ≤ x0) ∧ ((x0 ≤ (9 : Int)) ∧ (x2 ≤ x3))))) := by omega
theorem q_4358 {x0 x1 : Int} (h0 : (((5 : Int) ≤ x0) ∧ (x0 ≤ ((9 : Int) + (1 : Int))))) : ((x0 < (6 : Int)) ∨ ((x0 ≠ (0 : Int)) ∨ (x1 ≠ (2147483647 : Int)))) := by omega
theorem q_4359 {x0 x1 : Int} (h0 : (((1 : Int) ≤ x0) ∧ ((x0 ≤ x1) ∧ (x1 ≤ (65536 : Int))))) : (((1 : Int) ≤ x0) ∧ ((x0 ≤ x1) ∧ (x0 ≤ (65536 : Int)))) := by omega
theorem q_4360 {x0 x1 : Int} (h0 : (((1 : Int) ≤ x0) ∧ ((x0 ≤ x1) ∧ (x1 ≤ (65536 : Int))))) : (inr x0) := by omega
theorem q_4361 {x0 x1 x2 x3 x4 : Int} (h0 : (((1 : Int) ≤ x0) ∧ ((x0 ≤ x1) ∧ (x1 ≤ (65536 : Int))))) (h1 : (((0 : Int) ≤ x2) ∧ ((x2 ≤ x3) ∧ (x3 ≤ (65536 : Int))))) (h2 : (((0 : Int) ≤ x4) ∧ (x4 ≤ ((9 : Int) * x0)))) : (inr (((8 : Int) * x2) + x4)) := by omega
theorem q_4362 {x0 x1 x2 x3 x4 x5 x6 : Int} (h0 : (x0 ≤ (((8 : Int) * x1) + x2))) (h1 : ((((8 : Int) * x1) + x3) < x0)) (h2 : ((((8 : Int) * x1) + x2) ≤ x4)) (h3 : ((((8 : Int) * x1) + x3) = x4)) (h4 : (((0 : Int) ≤ x1) ∧ ((x1 ≤ x5) ∧ (x5 ≤ (65536 : Int))))) (h5 : (inr x3)) (h6 : (((0 : Int) ≤ x3) ∧ (x3 ≤ ((9 : Int) * x6)))) : (((-(2147483648 : Int)) ≤ (((8 : Int) * x1) + x3)) ∧ ((((8 : Int) * x1) + x3) ≤ (2147483647 : Int))) := by omega
theorem q_4363 {x0 x1 x2 x3 x4 x5 x6 : Int} (h0 : (x0 ≤ x1)) (h1 : (x2 ≤ (((8 : Int) * x3) + x0))) (h2 : ((((8 : Int) * x3) + x4) < x2)) (h3 : (x1 = (9 : Int))) (h4 : ((((8 : Int) * x3) + x0) ≤ x5)) (h5 : ((((8 : Int) * x3) + x4) = x5)) : ((x0 ≠ (0 : Int)) ∨ ((((8 : Int) * x3) + x4) = x6)) := by omega
theorem q_4364 {x0 x1 x2 x3 x4 x5 x6 x7 : Int} (h0 : (x0 ≤ x1)) (h1 : (x2 ≤ (((8 : Int) * x3) + x0))) (h2 : ((((8 : Int) * x3) + x4) < x2)) (h3 : (x1 = (9 : Int))) (h4 : ((((8 : Int) * x3) + x0) ≤ x5)) (h5 : ((((8 : Int) * x3) + x4) = x5)) (h6 : (((5 : Int) ≤ x0) ∧ (x0 ≤ ((9 : Int) + (1 : Int))))) : (((0 : Int) ≤ x0) ∧ ((x0 = (0 : Int)) ∨ (((5 : Int) ≤ x0) ∧ ((x0 ≤ (9 : Int)) ∧ (x6 ≤ x7))))) := by omega
theorem q_4365 {x0 x1 x2 x3 x4 x5 x6 : Int} (h0 : (x0 ≤ x1)) (h1 : (x2 ≤ (((8 : Int) * x3) + x0))) (h2 : ((((8 : Int) * x3) + x4) < x2)) (h3 : (x1 = (9 : Int))) (h4 : ((((8 : Int) * x3) + x0) ≤ x5)) (h5 : ((((8 : Int) * x3) + x4) = x5)) : ((x0 < (6 : Int)) ∨ ((x0 ≠ (0 : Int)) ∨ (x6 ≠ (2147483647 : Int)))) := by omega
theorem q_4366 {x0 x1 x2 x3 x4 x5 x6 x7 x8 x9 : Int} (h0 : (x0 ≤ x1)) (h1 : ((x2 = x3) ∧ ((x4 = x3) ∧ ((x5 = x3) ∧ ((x6 = x3) ∧ ((x7 = x3) ∧ ((x8 = x1) ∧ ((x9 = x1) ∧ (x1 = (512 : Int)))))))))) : ((x2 = x3) ∧ ((x4 = x3) ∧ ((x5 = x3) ∧ ((x6 = x3) ∧ ((x7 = x3) ∧ ((x8 = x1) ∧ ((x9 = x1) ∧ (x0 ≤ x1)))))))) := by omega
theorem q_4367 {x0 x1 x2 x3 x4 : Int} (h0 : (((1 : Int) ≤ x0) ∧ ((x0 ≤ x1) ∧ (x1 ≤ (65536 : Int))))) (h1 : (((0 : Int) ≤ x2) ∧ ((x2 ≤ x3) ∧ (x3 ≤ (65536 : Int))))) (h2 : (((0 : Int) ≤ x4) ∧ (x4 ≤ ((9 : Int) * x0)))) : (((-(2147483648 : Int)) ≤ (((8 : Int) * x2) + x4)) ∧ ((((8 : Int) * x2) + x4) ≤ (2147483647 : Int))) := by omega
theorem q_4368 {x0 x1 x2 x3 : Int} (h0 : (((5 : Int) ≤ x0) ∧ (x0 ≤ ((9 : Int) + (1 : Int))))) : ((x0 ≠ (0 : Int)) ∨ ((((8 : Int) * x1) + x2) = x3)) := by omega
theorem q_4369 {x0 x1 : Int} : (((0 : Int) ≤ (0 : Int)) ∧ (((0 : Int) = (0 : Int)) ∨ (((5 : Int) ≤ (0 : Int)) ∧ (((0 : Int) ≤ (8 : Int)) ∧ (x0 ≤ x1))))) := by omega
theorem q_4370 : (((5 : Int) ≤ (5 : Int)) ∧ ((5 : Int) ≤ ((8 : Int) + (1 : Int)))) := by omega
theorem q_4371 {x0 x1 : Int} (h0 : (x0 ≤ x1)) (h1 : (x1 = (8 : Int))) (h2 : (((5 : Int) ≤ x0) ∧ (x0 ≤ ((8 : Int) + (1 : Int))))) : (((5 : Int) ≤ (x0 + (1 : Int))) ∧ ((x0 + (1 : Int)) ≤ ((8 : Int) + (1 : Int)))) := by omega
theorem q_4372 {x0 : Int} (h0 : (((5 : Int) ≤ x0) ∧ (x0 ≤ ((8 : Int) + (1 : Int))))) : (inr (x0 + (1 : Int))) := by omega
theorem q_4373 {x0 : Int} : ((((8 : Int) + (1 : Int)) - (x0 + (1 : Int))) < (((8 : Int) + (1 : Int)) - x0)) := by omega
theorem q_4374 {x0 x1 : Int} (h0 : (x0 ≤ x1)) (h1 : (x1 = (8 : Int))) : ((0 : Int) < (((8 : Int) + (1 : Int)) - x0)) := by omega
theorem q_4375 {x0 : Int} (h0 : (((5 : Int) ≤ x0) ∧ (x0 ≤ ((8 : Int) + (1 : Int))))) : (((0 : Int) ≤ x0) ∧ (x0 ≤ (31 : Int))) := by omega
theorem q_4376 {x0 x1 x2 x3 x4 x5 x6 x7 x8 x9 x10 : Int} (h0 : (((0 : Int) ≤ x0) ∧ (x0 ≤ (1000000 : Int)))) (h1 : ((x0 = (53 : Int)) ∧ (x1 = (3 : Int)))) (h2 : (x2 = (32 : Int))) (h3 : ((x3 = x2) ∧ ((x4 = x2) ∧ ((x5 = x2) ∧ ((x6 = x2) ∧ ((x7 = x2) ∧ ((x8 = x9) ∧ ((x10 = x9) ∧ (x9 = (256 : Int)))))))))) : ((x2 ≤ x0) ∧ (x3 = x2)) := by omega
theorem q_4377 {x0 x1 x2 : Int} (h0 : (((5 : Int) ≤ x0) ∧ (x0 ≤ ((8 : Int) + (1 : Int))))) (h1 : (((0 : Int) ≤ x1) ∧ ((x1 ≤ x2) ∧ (x2 ≤ (65536 : Int))))) : (inr (((8 : Int) * x1) + x0)) := by omega
theorem q_4378 {x0 x1 x2 : Int} (h0 : (((5 : Int) ≤ x0) ∧ (x0 ≤ ((8 : Int) + (1 : Int))))) : ((x0 ≠ (0 : Int)) ∨ (x1 = x2)) := by omega
theorem q_4379 {x0 x1 x2 x3 : Int} (h0 : (x0 ≤ x1)) (h1 : (x2 ≤ x3)) (h2 : (x1 = (8 : Int))) (h3 : (((5 : Int) ≤ x0) ∧ (x0 ≤ ((8 : Int) + (1 : Int))))) : (((0 : Int) ≤ x0) ∧ ((x0 = (0 : Int)) ∨ (((5 : Int) ≤ x0) ∧ ((x0 ≤ (8 : Int)) ∧ (x2 ≤ x3))))) := by omega
theorem q_4380 {x0 x1 : Int} (h0 : (((5 : Int) ≤ x0) ∧ (x0 ≤ ((8 : Int) + (1 : Int))))) : ((x0 < (6 : Int)) ∨ ((x0 ≠ (0 : Int)) ∨ (x1 ≠ (2147483647 : Int)))) := by omega
theorem q_4381 {x0 x1 x2 x3 x4 x5 x6 : Int} (h0 : (x0 ≤ x1)) (h1 : (x2 ≤ (((8 : Int) * x3) + x0))) (h2 : ((((8 : Int) * x3) + x4) < x2)) (h3 : (x1 = (8 : Int))) (h4 : ((((8 : Int) * x3) + x0) ≤ x5)) (h5 : ((((8 : Int) * x3) + x4) = x5)) : ((x0 ≠ (0 : Int)) ∨ ((((8 : Int) * x3) + x4) = x6)) := by omega
theorem q_4382 {x0 x1 x2 x3 x4 x5 x6 x7 : Int} (h0 : (x0 ≤ x1)) (h1 : (x2 ≤ (((8 : Int) * x3) + x0))) (h2 : ((((8 : Int) * x3) + x4) < x2)) (h3 : (x1 = (8 : Int))) (h4 : ((((8 : Int) * x3) + x0) ≤ x5)) (h5 : ((((8 : Int) * x3) + x4) = x5)) (h6 : (((5 : Int) ≤ x0) ∧ (x0 ≤ ((8 : Int) + (1 : Int))))) : (((0 : Int) ≤ x0) ∧ ((x0 = (0 : Int)) ∨ (((5 : Int) ≤ x0) ∧ ((x0 ≤ (8 : Int)) ∧ (x6 ≤ x7))))) := by omega
theorem q_4383 {x0 x1 x2 x3 x4 x5 x6 : Int} (h0 : (x0 ≤ x1)) (h1 : (x2 ≤ (((8 : Int) * x3) + x0))) (h2 : ((((8 : Int) * x3) + x4) < x2)) (h3 : (x1 = (8 : Int))) (h4 : ((((8 : Int) * x3) + x0) ≤ x5)) (h5 : ((((8 : Int) * x3) + x4) = x5)) : ((x0 < (6 : Int)) ∨ ((x0 ≠ (0 : Int)) ∨ (x6 ≠ (2147483647 : Int)))) := by omega
theorem q_4384 {x0 x1 x2 x3 x4 x5 x6 x7 x8 x9 : Int} (h0 : (x0 ≤ x1)) (h1 : ((x2 = x3) ∧ ((x4 = x3) ∧ ((x5 = x3) ∧ ((x6 = x3) ∧ ((x7 = x3) ∧ ((x8 = x1) ∧ ((x9 = x1) ∧ (x1 = (256 : Int)))))))))) : ((x2 = x3) ∧ ((x4 = x3) ∧ ((x5 = x3) ∧ ((x6 = x3) ∧ ((x7 = x3) ∧ ((x8 = x1) ∧ ((x9 = x1) ∧ (x0 ≤ x1)))))))) := by omega
theorem q_4385 {x0 x1 x2 x3 : Int} (h0 : (((5 : Int) ≤ x0) ∧ (x0 ≤ ((8 : Int) + (1 : Int))))) : ((x0 ≠ (0 : Int)) ∨ ((((8 : Int) * x1) + x2) = x3)) := by omega
theorem q_4386 {x0 x1 x2 x3 x4 x5 x6 x7 x8 x9 x10 : Int} (h0 : ((x0 = (53 : Int)) ∧ (x1 = (3 : Int)))) (h1 : (x2 = (53 : Int))) (h2 : ((x3 = x2) ∧ ((x4 = x2) ∧ ((x5 = x2) ∧ ((x6 = x2) ∧ ((x7 = x2) ∧ ((x8 = x9) ∧ ((x10 = x9) ∧ (x9 = (512 : Int)))))))))) : ((x2 ≤ x0) ∧ (x3 = x2)) := by omega
theorem q_4387 {x0 x1 x2 : Int} (h0 : (((0 : Int) ≤ x0) ∧ ((x0 ≤ x1) ∧ (x1 ≤ x2)))) : (((0 : Int) ≤ x1) ∧ (x1 ≤ x2)) := by omega
theorem q_4388 {x0 : Int} (h0 : (((0 : Int) ≤ x0) ∧ (x0 ≤ (1000000 : Int)))) (h1 : (x0 = (10 : Int))) : (((0 : Int) ≤ (1 : Int)) ∧ ((1 : Int) < x0)) := by omega
theorem q_4389 {x0 x1 x2 x3 x4 : Int} (h0 : (x0 = x1)) (h1 : (((1 : Int) ≤ x2) ∧ (x2 ≤ (8 : Int)))) (h2 : (x2 = x0)) (h3 : (x3 < (x4 + x2))) : ((x3 ≤ x3) ∧ (((x3 - x1) < x3) ∧ ((x3 - x1) < x4))) := by omega
theorem q_4390 {x0 x1 x2 x3 x4 x5 x6 x7 x8 : Int} (h0 : (inr x0)) (h1 : (x1 = x0)) (h2 : (((0 : Int) ≤ x2) ∧ ((x2 ≤ x3) ∧ (x3 ≤ x4)))) (h3 : (x5 = x1)) (h4 : ((x6 ≤ x7) ∧ ((x7 ≤ x8) ∧ (x8 ≤ (16384 : Int))))) (h5 : (x3 < (x7 + x5))) : (inr (x3 - x0)) := by omega
theorem q_4391 {x0 x1 x2 x3 : Int} (h0 : ((x0 = (0 : Int)) ∧ ((x1 = (0 : Int)) ∧ (x2 = (0 : Int))))) : ((x2 = (0 : Int)) ∧ (x0 ≤ (x3 - x3))) := by omega
theorem q_4392 {x0 x1 x2 x3 : Int} (h0 : (((-(2147483648 : Int)) ≤ x0) ∧ (x0 ≤ (2147483647 : Int)))) (h1 : (((0 : Int) ≤ x0) ∧ ((x0 ≤ x1) ∧ (x0 ≤ (x2 - x3))))) : (inr x0) := by omega
theorem q_4393 {x0 x1 x2 : Int} (h0 : (((-(2147483648 : Int)) ≤ x0) ∧ (x0 ≤ (2147483647 : Int)))) (h1 : (((0 : Int) ≤ x0) ∧ (x0 ≤ (x1 - x2)))) : (inr x0) := by omega
theorem q_4394 {x0 x1 x2 : Int} (h0 : (x0 < x1)) (h1 : ((0 : Int) ≤ x0)) (h2 : (((0 : Int) ≤ x1) ∧ ((x1 ≤ x2) ∧ (x2 ≤ (65536 : Int))))) : (((0 : Int) ≤ x0) ∧ (x0 < x2)) := by omega
theorem q_4395 {x0 x1 x2 : Int} (h0 : (x0 < x1)) (h1 : ((0 : Int) ≤ x0)) (h2 : (((0 : Int) ≤ x1) ∧ ((x1 ≤ x2) ∧ (x2 ≤ (65536 : Int))))) : (inr (x0 + (1 : Int))) := by omega
theorem q_4396 {x0 x1 x2 x3 x4 x5 x6 x7 : Int} (h0 : (x0 < x1)) (h1 : ((x2 = x3) ∧ ((x4 = x3) ∧ ((x3 ≤ (65536 : Int)) ∧ (((x3 = (0 : Int)) ∨ ((64 : Int) ≤ x3)) ∧ (x5 = (0 : Int))))))) (h2 : ((0 : Int) ≤ x0)) (h3 : (((0 : Int) ≤ x1) ∧ ((x1 ≤ x3) ∧ (x1 ≤ (x6 - x7))))) : (((0 : Int) ≤ x0) ∧ (x0 < x2)) := by omega
theorem q_4397 {x0 x1 x2 x3 x4 x5 x6 x7 : Int} (h0 : (x0 < x1)) (h1 : ((x2 = x3) ∧ ((x4 = x3) ∧ ((x3 ≤ (65536 : Int)) ∧ (((x3 = (0 : Int)) ∨ ((64 : Int) ≤ x3)) ∧ (x5 = (0 : Int))))))) (h2 : ((0 : Int) ≤ x0)) (h3 : (((0 : Int) ≤ x1) ∧ ((x1 ≤ x3) ∧ (x1 ≤ (x6 - x7))))) : (inr (x0 + (1 : Int))) := by omega
theorem q_4398 {x0 x1 : Int} (h0 : (((-(2147483648 : Int)) ≤ x0) ∧ (x0 ≤ (2147483647 : Int)))) (h1 : (((0 : Int) ≤ x0) ∧ (x0 ≤ x1))) : (inr x0) := by omega
theorem q_4399 {x0 x1 x2 x3 x4 x5 : Int} (h0 : (x0 < x1)) (h1 : ((x2 = x3) ∧ ((x4 = x3) ∧ ((x3 ≤ (65536 : Int)) ∧ (((x3 = (0 : Int)) ∨ ((64 : Int) ≤ x3)) ∧ (x5 = (0 : Int))))))) (h2 : (((0 : Int) ≤ x1) ∧ (x1 ≤ x3))) (h3 : ((0 : Int) ≤ x0)) : (((0 : Int) ≤ x0) ∧ (x0 < x2)) := by omega
theorem q_4400 {x0 x1 x2 x3 x4 x5 : Int} (h0 : (x0 < x1)) (h1 : ((x2 = x3) ∧ ((x4 = x3) ∧ ((x3 ≤ (65536 : Int)) ∧ (((x3 = (0 : Int)) ∨ ((64 : Int) ≤ x3)) ∧ (x5 = (0 : Int))))))) (h2 : (((0 : Int) ≤ x1) ∧ (x1 ≤ x3))) (h3 : ((0 : Int) ≤ x0)) : (((0 : Int) ≤ x0) ∧ (x0 < x4)) := by omega
theorem q_4401 {x0 x1 x2 : Int} (h0 : (x0 < x1)) (h1 : ((0 : Int) ≤ x0)) (h2 : (x1 ≤ x2)) : (((0 : Int) ≤ x0) ∧ (x0 < x2)) := by omega
theorem q_4402 {x0 : Int} (h0 : (((1 : Int) ≤ x0) ∧ (x0 ≤ (16387 : Int)))) : (x0 ≤ (9000000000000000000 : Int)) := by omega
theorem q_4403 {x0 : Int} (h0 : (((1 : Int) ≤ x0) ∧ (x0 ≤ (16387 : Int)))) : ((1 : Int) ≤ x0) := by omega
theorem q_4404 {x0 : Int} (h0 : (((1 : Int) ≤ x0) ∧ (x0 ≤ (16387 : Int)))) : (inrJ x0) := by omega
theorem q_4405 {x0 x1 x2 x3 x4 x5 : Int} (h0 : (((0 : Int) ≤ x0) ∧ (x0 ≤ (1000000 : Int)))) (h1 : ((x0 = (3 : Int)) ∧ ((x1 = x2) ∧ ((x3 = x2) ∧ ((x4 = x2) ∧ ((x5 = (0 : Int)) ∧ (x2 ≤ (16384 : Int)))))))) : (((0 : Int) ≤ (0 : Int)) ∧ ((0 : Int) < x0)) := by omega
theorem q_4406 {x0 x1 x2 x3 x4 x5 x6 x7 : Int} (h0 : (x0 < x1)) (h1 : ((0 : Int) ≤ x0)) (h2 : ((x2 = (3 : Int)) ∧ ((x3 = x4) ∧ ((x5 = x4) ∧ ((x6 = x4) ∧ ((x7 = (0 : Int)) ∧ (x4 ≤ (16384 : Int)))))))) (h3 : (x1 ≤ x4)) : (((0 : Int) ≤ x0) ∧ (x0 < x3)) := by omega
theorem q_4407 {x0 x1 x2 x3 x4 x5 : Int} (h0 : (((0 : Int) ≤ x0) ∧ (x0 ≤ (1000000 : Int)))) (h1 : ((x0 = (3 : Int)) ∧ ((x1 = x2) ∧ ((x3 = x2) ∧ ((x4 = x2) ∧ ((x5 = (0 : Int)) ∧ (x2 ≤ (16384 : Int)))))))) : (((0 : Int) ≤ (1 : Int)) ∧ ((1 : Int) < x0)) := by omega
theorem q_4408 {x0 x1 x2 x3 x4 x5 x6 x7 : Int} (h0 : (x0 < x1)) (h1 : ((0 : Int) ≤ x0)) (h2 : ((x2 = (3 : Int)) ∧ ((x3 = x4) ∧ ((x5 = x4) ∧ ((x6 = x4) ∧ ((x7 = (0 : Int)) ∧ (x4 ≤ (16384 : Int)))))))) (h3 : (x1 ≤ x4)) : (((0 : Int) ≤ x0) ∧ (x0 < x5)) := by omega
theorem q_4409 {x0 x1 x2 x3 x4 x5 : Int} (h0 : ((x0 = (3 : Int)) ∧ ((x1 = x2) ∧ ((x3 = x2) ∧ ((x4 = x2) ∧ ((x5 = (0 : Int)) ∧ (x2 ≤ (16384 : Int)))))))) : (((0 : Int) ≤ (2 : Int)) ∧ ((2 : Int) < x0)) := by omega
theorem q_4410 {x0 x1 x2 : Int} (h0 : (x0 < x1)) (h1 : (((0 : Int) ≤ x1) ∧ (x1 ≤ x2))) (h2 : ((0 : Int) ≤ x0)) : (((0 : Int) ≤ x0) ∧ (x0 < x2)) := by omega
theorem q_4411 {x0 x1 x2 x3 x4 x5 x6 x7 : Int} (h0 : (x0 < x1)) (h1 : ((0 : Int) ≤ x0)) (h2 : ((x2 = (3 : Int)) ∧ ((x3 = x4) ∧ ((x5 = x4) ∧ ((x6 = x4) ∧ ((x7 = (0 : Int)) ∧ (x4 ≤ (16384 : Int)))))))) (h3 : (x1 ≤ x4)) : (((0 : Int) ≤ x0) ∧ (x0 < x6)) := by omega
theorem q_4412 {x0 x1 x2 : Int} (h0 : (((0 : Int) ≤ x0) ∧ (x0 ≤ (1000000 : Int)))) (h1 : (x1 < x2)) (h2 : ((0 : Int) ≤ x1)) (h3 : (x2 ≤ x0)) : (inr (x1 + (1 : Int))) := by omega
theorem q_4413 {x0 x1 : Int} (h0 : (((0 : Int) ≤ x0) ∧ (x0 ≤ (1000000 : Int)))) (h1 : ((x0 < x1) ∧ (x1 ≤ (16384 : Int)))) : (((0 : Int) ≤ x1) ∧ (x1 ≤ (1000000 : Int))) := by omega
theorem q_4414 {x0 x1 x2 x3 x4 x5 : Int} (h0 : ((x0 = (3 : Int)) ∧ ((x1 = x2) ∧ ((x3 = x2) ∧ ((x4 = x2) ∧ ((x5 = (0 : Int)) ∧ (x2 ≤ (16384 : Int)))))))) : (x0 = (3 : Int)) := by omega
theorem q_4415 {x0 x1 x2 : Int} (h0 : (((x0 < x1) ∧ (x2 = x1)) ∨ ((¬ (x0 < x1)) ∧ (x2 = x0)))) (h1 : (((0 : Int) ≤ x0) ∧ (x0 ≤ x1))) : (x0 ≤ x2) := by omega
theorem q_4416 {x0 x1 x2 : Int} (h0 : ((x0 < x1) ∧ (x1 ≤ (16384 : Int)))) (h1 : (x2 = (0 : Int))) : (((3 : Int) = (3 : Int)) ∧ ((x1 = x1) ∧ ((x1 = x1) ∧ ((x1 = x1) ∧ ((x2 = (0 : Int)) ∧ (x1 ≤ (16384 : Int))))))) := by omega
theorem q_4417 {x0 x1 : Int} (h0 : (((0 : Int) ≤ x0) ∧ (x0 ≤ x1))) (h1 : (x0 ≤ (16384 : Int))) : (inr x0) := by omega
theorem q_4418 {x0 x1 : Int} (h0 : (((0 : Int) ≤ x0) ∧ (x0 ≤ (1000000 : Int)))) (h1 : (x1 ≤ (0 : Int))) : (x1 ≤ x0) := by omega
theorem q_4419 {x0 : Int} (h0 : ((128 : Int) ≤ x0)) (h1 : (x0 ≤ (16384 : Int))) : (inr x0) := by omega
theorem q_4420 {x0 x1 : Int} (h0 : (((0 : Int) ≤ x0) ∧ (x0 ≤ (1000000 : Int)))) (h1 : ((x1 = (3 : Int)) ∧ (x0 = (3 : Int)))) : (((0 : Int) ≤ (0 : Int)) ∧ ((0 : Int) < x0)) := by omega
theorem q_4421 {x0 x1 : Int} (h0 : (((0 : Int) ≤ x0) ∧ (x0 ≤ (1000000 : Int)))) (h1 : ((x0 = (3 : Int)) ∧ (x1 = (3 : Int)))) : (((0 : Int) ≤ (0 : Int)) ∧ ((0 : Int) < x0)) := by omega
theorem q_4422 {x0 x1 : Int} (h0 : (((0 : Int) ≤ x0) ∧ (x0 ≤ (1000000 : Int)))) (h1 : ((x1 = (3 : Int)) ∧ (x0 = (3 : Int)))) : (((0 : Int) ≤ (1 : Int)) ∧ ((1 : Int) < x0)) := by omega
theorem q_4423 {x0 x1 : Int} (h0 : (((0 : Int) ≤ x0) ∧ (x0 ≤ (1000000 : Int)))) (h1 : ((x0 = (3 : Int)) ∧ (x1 = (3 : Int)))) : (((0 : Int) ≤ (1 : Int)) ∧ ((1 : Int) < x0)) := by omega
theorem q_4424 {x0 x1 x2 x3 x4 : Int} (h0 : ((x0 ≤ (16384 : Int)) ∧ ((x1 ≠ (2 : Int)) ∨ (x2 ≤ (128 : Int))))) (h1 : (((0 : Int) ≤ x0) ∧ ((x0 ≤ x3) ∧ (x3 ≤ (65536 : Int))))) (h2 : (((x0 ≥ (1024 : Int)) ∧ (x4 = (4 : Int))) ∨ ((x0 < (1024 : Int)) ∧ (x4 = (1 : Int))))) : ((inr ((x0 + x4) - (1 : Int))) ∧ ((0 : Int) ≤ ((x0 + x4) - (1 : Int)))) := by omega
theorem q_4425 {x0 x1 x2 x3 : Int} (h0 : ((x0 ≤ (16384 : Int)) ∧ ((x1 ≠ (2 : Int)) ∨ (x2 ≤ (128 : Int))))) (h1 : (((0 : Int) ≤ x0) ∧ ((x0 ≤ x3) ∧ (x3 ≤ (65536 : Int))))) : (inr x0) := by omega
theorem q_4426 {x0 : Int} (h0 : ((x0 = (2 : Int)) ∨ (x0 = (3 : Int)))) : (inr x0) := by omega
theorem q_4427 {x0 : Int} (h0 : (x0 ≤ (133 : Int))) : (x0 ≤ ((133 : Int) + ((2 : Int) * (0 : Int)))) := by omega
theorem q_4428 {x0 x1 x2 x3 : Int} (h0 : (((x0 = (1 : Int)) ∧ (((((x1 + x0) - (1 : Int)) / x0) = x1) ∧ (x1 < (1024 : Int)))) ∨ ((x0 = (4 : Int)) ∧ (((((x1 + x0) - (1 : Int)) / x0) = ((x1 + (3 : Int)) / (4 : Int))) ∧ ((1024 : Int) ≤ x1))))) (h1 : (((x0 ≠ (1 : Int)) ∧ (x2 = (((4 : Int) * x3) + (6 : Int)))) ∨ ((x0 = (1 : Int)) ∧ (x2 = (10 : Int))))) : (((0 : Int) ≤ (0 : Int)) ∧ (((0 : Int) ≤ (4 : Int)) ∧ ((0 : Int) ≤ (x0 - (1 : Int))))) := by omega
theorem q_4429 {x0 x1 : Int} (h0 : (((0 : Int) ≤ x0) ∧ ((x0 ≤ (4 : Int)) ∧ (x0 ≤ (x1 - (1 : Int)))))) (h1 : (inr x1)) : (inr (x1 - (1 : Int))) := by omega
theorem q_4430 {x0 x1 x2 x3 : Int} (h0 : (((0 : Int) ≤ x0) ∧ ((x0 ≤ (4 : Int)) ∧ (x0 ≤ (x1 - (1 : Int)))))) (h1 : (x2 ≤ ((133 : Int) + ((2 : Int) * x0)))) : (x2 ≤ (((141 : Int) + ((2 : Int) * ((0 : Int) * (((x3 + x1) - (1 : Int)) / x1)))) + ((3 : Int) * (0 : Int)))) := by omega
theorem q_4431 {x0 x1 : Int} (h0 : (((0 : Int) ≤ x0) ∧ ((x0 ≤ (4 : Int)) ∧ (x0 ≤ (x1 - (1 : Int)))))) : (((0 : Int) ≤ (0 : Int)) ∧ (((0 : Int) ≤ (4 : Int)) ∧ ((0 : Int) ≤ x1))) := by omega
theorem q_4432 {x0 x1 x2 : Int} (h0 : (((0 : Int) ≤ (x0 * (((x1 + x2) - (1 : Int)) / x2))) ∧ (((x0 * (((x1 + x2) - (1 : Int)) / x2)) ≤ x1) ∧ (((0 : Int) ≤ ((x0 + (1 : Int)) * (((x1 + x2) - (1 : Int)) / x2))) ∧ ((((x0 + (1 : Int)) * (((x1 + x2) - (1 : Int)) / x2)) ≤ (300000 : Int)) ∧ ((x0 * (((x1 + x2) - (1 : Int)) / x2)) ≤ ((x0 + (1 : Int)) * (((x1 + x2) - (1 : Int)) / x2)))))))) : (inr ((x0 + (1 : Int)) * (((x1 + x2) - (1 : Int)) / x2))) := by omega
theorem q_4433 {x0 x1 : Int} (h0 : (x0 = (256 : Int))) (h1 : (x1 = (256 : Int))) : ((x1 = (256 : Int)) ∧ (x0 = (256 : Int))) := by omega
theorem q_4434 {x0 x1 x2 x3 x4 : Int} (h0 : (((0 : Int) ≤ x0) ∧ (x0 ≤ (1000000 : Int)))) (h1 : (((((x1 + (1 : Int)) * (((x2 + x3) - (1 : Int)) / x3)) < x2) ∧ (x4 = ((x1 + (1 : Int)) * (((x2 + x3) - (1 : Int)) / x3)))) ∨ ((¬ (((x1 + (1 : Int)) * (((x2 + x3) - (1 : Int)) / x3)) < x2)) ∧ (x4 = x2)))) (h2 : (((0 : Int) ≤ x2) ∧ ((x2 ≤ x0) ∧ (x0 ≤ (65536 : Int))))) (h3 : (((0 : Int) ≤ (x1 * (((x2 + x3) - (1 : Int)) / x3))) ∧ (((x1 * (((x2 + x3) - (1 : Int)) / x3)) ≤ x2) ∧ (((0 : Int) ≤ ((x1 + (1 : Int)) * (((x2 + x3) - (1 : Int)) / x3))) ∧ ((((x1 + (1 : Int)) * (((x2 + x3) - (1 : Int)) / x3)) ≤ (300000 : Int)) ∧ ((x1 * (((x2 + x3) - (1 : Int)) / x3)) ≤ ((x1 + (1 : Int)) * (((x2 + x3) - (1 : Int)) / x3)))))))) : (((0 : Int) ≤ (x1 * (((x2 + x3) - (1 : Int)) / x3))) ∧ (((x1 * (((x2 + x3) - (1 : Int)) / x3)) ≤ x4) ∧ ((x4 ≤ x0) ∧ (x0 ≤ (65536 : Int))))) := by omega
theorem q_4435 {x0 x1 x2 x3 x4 x5 x6 : Int} (h0 : (((((x0 + (1 : Int)) * (((x1 + x2) - (1 : Int)) / x2)) < x1) ∧ (x3 = ((x0 + (1 : Int)) * (((x1 + x2) - (1 : Int)) / x2)))) ∨ ((¬ (((x0 + (1 : Int)) * (((x1 + x2) - (1 : Int)) / x2)) < x1)) ∧ (x3 = x1)))) (h1 : ((x1 ≤ (16384 : Int)) ∧ ((x4 ≠ (2 : Int)) ∨ (x5 ≤ (128 : Int))))) (h2 : (((0 : Int) ≤ x1) ∧ ((x1 ≤ x6) ∧ (x6 ≤ (65536 : Int))))) (h3 : (((0 : Int) ≤ (x0 * (((x1 + x2) - (1 : Int)) / x2))) ∧ (((x0 * (((x1 + x2) - (1 : Int)) / x2)) ≤ x1) ∧ (((0 : Int) ≤ ((x0 + (1 : Int)) * (((x1 + x2) - (1 : Int)) / x2))) ∧ ((((x0 + (1 : Int)) * (((x1 + x2) - (1 : Int)) / x2)) ≤ (300000 : Int)) ∧ ((x0 * (((x1 + x2) - (1 : Int)) / x2)) ≤ ((x0 + (1 : Int)) * (((x1 + x2) - (1 : Int)) / x2)))))))) : (inr x3) := by omega
theorem q_4436 {x0 x1 x2 : Int} (h0 : (((0 : Int) ≤ (x0 * (((x1 + x2) - (1 : Int)) / x2))) ∧ (((x0 * (((x1 + x2) - (1 : Int)) / x2)) ≤ x1) ∧ (((0 : Int) ≤ ((x0 + (1 : Int)) * (((x1 + x2) - (1 : Int)) / x2))) ∧ ((((x0 + (1 : Int)) * (((x1 + x2) - (1 : Int)) / x2)) ≤ (300000 : Int)) ∧ ((x0 * (((x1 + x2) - (1 : Int)) / x2)) ≤ ((x0 + (1 : Int)) * (((x1 + x2) - (1 : Int)) / x2)))))))) : (inr (x0 * (((x1 + x2) - (1 : Int)) / x2))) := by omega
theorem q_4437 {x0 x1 x2 : Int} (h0 : (x0 = (0 : Int))) (h1 : ((x1 = (0 : Int)) ∧ (x2 = (0 : Int)))) : ((x0 = (0 : Int)) ∧ ((x1 = (0 : Int)) ∧ (x2 = (0 : Int)))) := by omega
theorem q_4438 {x0 x1 : Int} (h0 : (((0 : Int) ≤ x0) ∧ ((x0 ≤ (4 : Int)) ∧ (x0 ≤ x1)))) : (inr (x0 + (1 : Int))) := by omega
theorem q_4439 {x0 x1 x2 x3 : Int} (h0 : (((0 : Int) ≤ x0) ∧ ((x0 ≤ x1) ∧ (x1 ≤ (65536 : Int))))) (h1 : (((0 : Int) ≤ (x2 * (((x0 + x3) - (1 : Int)) / x3))) ∧ ((((x2 + (1 : Int)) * (((x0 + x3) - (1 : Int)) / x3)) ≤ x0) ∧ ((x2 * (((x0 + x3) - (1 : Int)) / x3)) ≤ ((x2 + (1 : Int)) * (((x0 + x3) - (1 : Int)) / x3)))))) : (((0 : Int) ≤ (x2 * (((x0 + x3) - (1 : Int)) / x3))) ∧ (((x2 * (((x0 + x3) - (1 : Int)) / x3)) ≤ ((x2 + (1 : Int)) * (((x0 + x3) - (1 : Int)) / x3))) ∧ ((((x2 + (1 : Int)) * (((x0 + x3) - (1 : Int)) / x3)) ≤ x1) ∧ (x1 ≤ (65536 : Int))))) := by omega
theorem q_4440 {x0 x1 x2 x3 x4 : Int} (h0 : ((x0 ≤ (16384 : Int)) ∧ ((x1 ≠ (2 : Int)) ∨ (x2 ≤ (128 : Int))))) (h1 : (((0 : Int) ≤ (x3 * (((x0 + x4) - (1 : Int)) / x4))) ∧ ((((x3 + (1 : Int)) * (((x0 + x4) - (1 : Int)) / x4)) ≤ x0) ∧ ((x3 * (((x0 + x4) - (1 : Int)) / x4)) ≤ ((x3 + (1 : Int)) * (((x0 + x4) - (1 : Int)) / x4)))))) : (inr ((x3 + (1 : Int)) * (((x0 + x4) - (1 : Int)) / x4))) := by omega
theorem q_4441 {x0 x1 x2 x3 x4 : Int} (h0 : ((x0 ≤ (16384 : Int)) ∧ ((x1 ≠ (2 : Int)) ∨ (x2 ≤ (128 : Int))))) (h1 : (((0 : Int) ≤ (x3 * (((x0 + x4) - (1 : Int)) / x4))) ∧ ((((x3 + (1 : Int)) * (((x0 + x4) - (1 : Int)) / x4)) ≤ x0) ∧ ((x3 * (((x0 + x4) - (1 : Int)) / x4)) ≤ ((x3 + (1 : Int)) * (((x0 + x4) - (1 : Int)) / x4)))))) : (inr (x3 * (((x0 + x4) - (1 : Int)) / x4))) := by omega
theorem q_4442 {x0 : Int} (h0 : (((0 : Int) ≤ x0) ∧ (x0 ≤ (100000 : Int)))) : (inrJ x0) := by omega
theorem q_4443 {x0 x1 : Int} (h0 : (((0 : Int) ≤ x0) ∧ ((x0 ≤ (4 : Int)) ∧ (x0 ≤ (x1 - (1 : Int)))))) : (inr (x0 + (1 : Int))) := by omega
theorem q_4444 {x0 : Int} (h0 : (((0 : Int) ≤ x0) ∧ (x0 ≤ (5 : Int)))) : (x0 ≤ (133 : Int)) := by omega
theorem q_4445 {x0 x1 : Int} (h0 : (x0 ≠ (1 : Int))) : (((x0 ≠ (1 : Int)) ∧ ((((4 : Int) * x1) + (6 : Int)) = (((4 : Int) * x1) + (6 : Int)))) ∨ ((x0 = (1 : Int)) ∧ ((((4 : Int) * x1) + (6 : Int)) = (10 : Int)))) := by omega
theorem q_4446 {x0 x1 : Int} (h0 : (x0 = (1 : Int))) : (((x0 ≠ (1 : Int)) ∧ ((10 : Int) = (((4 : Int) * x1) + (6 : Int)))) ∨ ((x0 = (1 : Int)) ∧ ((10 : Int) = (10 : Int)))) := by omega
theorem q_4447 {x0 x1 : Int} (h0 : (x0 ≠ (1 : Int))) : (((x0 ≠ (1 : Int)) ∧ ((x1 - (2 : Int)) = (x1 - (2 : Int)))) ∨ ((x0 = (1 : Int)) ∧ ((x1 - (2 : Int)) = (0 : Int)))) := by omega
theorem q_4448 {x0 x1 : Int} (h0 : (x0 = (1 : Int))) : (((x0 ≠ (1 : Int)) ∧ ((0 : Int) = (x1 - (2 : Int)))) ∨ ((x0 = (1 : Int)) ∧ ((0 : Int) = (0 : Int)))) := by omega
theorem q_4449 {x0 x1 x2 : Int} (h0 : (x0 ≠ (1 : Int))) (h1 : ((16384 : Int) ≤ x1)) : (((x0 ≠ (1 : Int)) ∧ ((x1 ≥ (16384 : Int)) ∧ ((5 : Int) = (5 : Int)))) ∨ (((x0 ≠ (1 : Int)) ∧ ((x1 < (16384 : Int)) ∧ (((x2 - (4 : Int)) ≥ (16384 : Int)) ∧ ((5 : Int) = (5 : Int))))) ∨ (((x0 ≠ (1 : Int)) ∧ ((x1 < (16384 : Int)) ∧ (((x2 - (4 : Int)) < (16384 : Int)) ∧ ((5 : Int) = (4 : Int))))) ∨ ((x0 = (1 : Int)) ∧ ((5 : Int) = (3 : Int)))))) := by omega
theorem q_4450 {x0 : Int} (h0 : (((0 : Int) ≤ x0) ∧ (x0 ≤ (1000000 : Int)))) : (inr (x0 - (4 : Int))) := by omega
theorem q_4451 {x0 x1 x2 : Int} (h0 : (x0 ≠ (1 : Int))) (h1 : (x1 < (16384 : Int))) (h2 : ((16384 : Int) ≤ (x2 - (4 : Int)))) : (((x0 ≠ (1 : Int)) ∧ ((x1 ≥ (16384 : Int)) ∧ ((5 : Int) = (5 : Int)))) ∨ (((x0 ≠ (1 : Int)) ∧ ((x1 < (16384 : Int)) ∧ (((x2 - (4 : Int)) ≥ (16384 : Int)) ∧ ((5 : Int) = (5 : Int))))) ∨ (((x0 ≠ (1 : Int)) ∧ ((x1 < (16384 : Int)) ∧ (((x2 - (4 : Int)) < (16384 : Int)) ∧ ((5 : Int) = (4 : Int))))) ∨ ((x0 = (1 : Int)) ∧ ((5 : Int) = (3 : Int)))))) := by omega
theorem q_4452 {x0 x1 x2 : Int} (h0 : (x0 ≠ (1 : Int))) (h1 : (x1 < (16384 : Int))) (h2 : ((x2 - (4 : Int)) < (16384 : Int))) : (((x0 ≠ (1 : Int)) ∧ ((x1 ≥ (16384 : Int)) ∧ ((4 : Int) = (5 : Int)))) ∨ (((x0 ≠ (1 : Int)) ∧ ((x1 < (16384 : Int)) ∧ (((x2 - (4 : Int)) ≥ (16384 : Int)) ∧ ((4 : Int) = (5 : Int))))) ∨ (((x0 ≠ (1 : Int)) ∧ ((x1 < (16384 : Int)) ∧ (((x2 - (4 : Int)) < (16384 : Int)) ∧ ((4 : Int) = (4 : Int))))) ∨ ((x0 = (1 : Int)) ∧ ((4 : Int) = (3 : Int)))))) := by omega
theorem q_4453 {x0 x1 x2 : Int} (h0 : (x0 = (1 : Int))) : (((x0 ≠ (1 : Int)) ∧ ((x1 ≥ (16384 : Int)) ∧ ((3 : Int) = (5 : Int)))) ∨ (((x0 ≠ (1 : Int)) ∧ ((x1 < (16384 : Int)) ∧ (((x2 - (4 : Int)) ≥ (16384 : Int)) ∧ ((3 : Int) = (5 : Int))))) ∨ (((x0 ≠ (1 : Int)) ∧ ((x1 < (16384 : Int)) ∧ (((x2 - (4 : Int)) < (16384 : Int)) ∧ ((3 : Int) = (4 : Int))))) ∨ ((x0 = (1 : Int)) ∧ ((3 : Int) = (3 : Int)))))) := by omega
theorem q_4454 {x0 x1 : Int} (h0 : (((x0 < (32 : Int)) ∧ (x1 = (1 : Int))) ∨ ((((32 : Int) ≤ x0) ∧ ((x0 < (4096 : Int)) ∧ (x1 = (2 : Int)))) ∨ (((4096 : Int) ≤ x0) ∧ (x1 = (3 : Int)))))) : (((1 : Int) ≤ x1) ∧ (x1 ≤ (3 : Int))) := by omega
theorem q_4455 {x0 x1 : Int} (h0 : (((0 : Int) ≤ x0) ∧ ((x0 ≤ x1) ∧ (x1 ≤ (65536 : Int))))) : (((0 : Int) ≤ (0 : Int)) ∧ (((0 : Int) ≤ (65536 : Int)) ∧ ((x0 ≤ x1) ∧ (x1 ≤ (65536 : Int))))) := by omega
theorem q_4456 {x0 x1 : Int} (h0 : (x0 ≤ (16384 : Int))) (h1 : (((0 : Int) ≤ x0) ∧ ((x0 ≤ x1) ∧ (x1 ≤ (65536 : Int))))) : (inr x0) := by omega
theorem q_4457 {x0 : Int} (h0 : (((0 : Int) ≤ x0) ∧ (x0 ≤ (1000000 : Int)))) (h1 : (x0 = (2 : Int))) : (((0 : Int) ≤ (0 : Int)) ∧ ((0 : Int) < x0)) := by omega
theorem q_4458 {x0 x1 x2 : Int} (h0 : (((0 : Int) ≤ x0) ∧ (x0 ≤ (1 : Int)))) (h1 : ((x0 = (2 : Int)) ∨ (x1 = x2))) : (x1 = x2) := by omega
theorem q_4459 {x0 x1 : Int} (h0 : (((x0 = (1 : Int)) ∧ (x1 = (0 : Int))) ∨ (((x0 = (2 : Int)) ∧ (x1 = (4 : Int))) ∨ ((x0 = (3 : Int)) ∧ (x1 = (12 : Int)))))) : (((0 : Int) ≤ x1) ∧ (x1 ≤ (12 : Int))) := by omega
theorem q_4460 {x0 x1 : Int} (h0 : (((x0 = (1 : Int)) ∧ (x1 = (3 : Int))) ∨ ((x0 ≠ (1 : Int)) ∧ (x1 = (4 : Int))))) : (((3 : Int) ≤ x1) ∧ (x1 ≤ (4 : Int))) := by omega
theorem q_4461 {x0 x1 x2 : Int} (h0 : (x0 = x1)) : ((x0 = x2) ∨ (x0 = x1)) := by omega
theorem q_4462 {x0 : Int} (h0 : (x0 ≠ (1 : Int))) : (((x0 = (1 : Int)) ∧ ((4 : Int) = (3 : Int))) ∨ ((x0 ≠ (1 : Int)) ∧ ((4 : Int) = (4 : Int)))) := by omega
theorem q_4463 {x0 : Int} (h0 : (x0 = (1 : Int))) : (((x0 = (1 : Int)) ∧ ((3 : Int) = (3 : Int))) ∨ ((x0 ≠ (1 : Int)) ∧ ((3 : Int) = (4 : Int)))) := by omega
theorem q_4464 {x0 : Int} (h0 : (x0 = (2 : Int))) : (((x0 = (1 : Int)) ∧ ((4 : Int) = (0 : Int))) ∨ (((x0 = (2 : Int)) ∧ ((4 : Int) = (4 : Int))) ∨ ((x0 = (3 : Int)) ∧ ((4 : Int) = (12 : Int))))) := by omega
theorem q_4465 {x0 : Int} (h0 : (x0 = (1 : Int))) : (((x0 = (1 : Int)) ∧ ((0 : Int) = (0 : Int))) ∨ (((x0 = (2 : Int)) ∧ ((0 : Int) = (4 : Int))) ∨ ((x0 = (3 : Int)) ∧ ((0 : Int) = (12 : Int))))) := by omega
theorem q_4466 {x0 x1 x2 : Int} (h0 : (x0 ≤ (16384 : Int))) (h1 : ((x1 ≠ (2 : Int)) ∨ (x2 ≤ (128 : Int)))) : ((x0 ≤ (16384 : Int)) ∧ ((x1 ≠ (2 : Int)) ∨ (x2 ≤ (128 : Int)))) := by omega
theorem q_4467 {x0 x1 : Int} (h0 : (x0 = (2 : Int))) (h1 : (((0 : Int) ≤ x1) ∧ (x1 ≤ (1000000 : Int)))) (h2 : ((x0 ≤ (1 : Int)) ∨ ((0 : Int) < x1))) : (x1 ≠ (0 : Int)) := by omega
theorem q_4468 {x0 : Int} (h0 : (x0 = (2 : Int))) : ((x0 = (2 : Int)) ∨ (x0 = (3 : Int))) := by omega
theorem q_4469 {x0 : Int} {p0 : Prop} (h0 : ((((0 : Int) ≤ x0) ∧ (x0 ≤ (11 : Int))) ∧ p0)) : (((0 : Int) ≤ x0) ∧ (x0 ≤ (11 : Int))) := by omega
theorem q_4470 {x0 x1 : Int} (h0 : (((0 : Int) ≤ x0) ∧ (x0 ≤ (1 : Int)))) : ((x0 ≠ (2 : Int)) ∨ (x1 ≤ (128 : Int))) := by omega
theorem q_4471 {x0 x1 x2 : Int} (h0 : (x0 = x1)) : ((x2 = (2 : Int)) ∨ (x0 = x1)) := by omega
theorem q_4472 {x0 : Int} (h0 : (((0 : Int) ≤ x0) ∧ (x0 ≤ (1 : Int)))) : (x0 ≠ (3 : Int)) := by omega
theorem q_4473 {x0 x1 x2 : Int} (h0 : (((0 : Int) ≤ x0) ∧ (x0 ≤ (1 : Int)))) : ((x0 ≠ (2 : Int)) ∨ (x1 = x2)) := by omega
theorem q_4474 {x0 : Int} (h0 : (((0 : Int) ≤ x0) ∧ (x0 ≤ (1 : Int)))) : (((0 : Int) ≤ x0) ∧ (x0 ≤ (3 : Int))) := by omega
theorem q_4475 {x0 x1 x2 x3 : Int} (h0 : ((x0 = (0 : Int)) ∧ ((x1 = (0 : Int)) ∧ (x2 = (0 : Int))))) (h1 : (x3 = (0 : Int))) : ((x0 = (0 : Int)) ∧ ((x1 = (0 : Int)) ∧ ((x3 = (0 : Int)) ∧ (x2 = (0 : Int))))) := by omega
theorem q_4476 : (((-(2147483648 : Int)) ≤ (2 : Int)) ∧ ((2 : Int) ≤ (2147483647 : Int))) := by omega
theorem q_4477 {x0 x1 x2 : Int} (h0 : (x0 = x1)) : ((x0 = x1) ∨ (x0 = x2)) := by omega
theorem q_4478 : ((2 : Int) ≠ (3 : Int)) := by omega
theorem q_4479 {x0 x1 : Int} (h0 : (x0 = x1)) : (((2 : Int) ≠ (2 : Int)) ∨ (x0 = x1)) := by omega
theorem q_4480 {x0 : Int} : (((2 : Int) ≠ (1 : Int)) ∨ ((0 : Int) < x0)) := by omega
theorem q_4481 {x0 x1 : Int} (h0 : (((0 : Int) ≤ x0) ∧ ((x0 ≤ x1) ∧ (x1 ≤ (65536 : Int))))) : (((0 : Int) ≤ x0) ∧ (x0 ≤ (65536 : Int))) := by omega
theorem q_4482 {x0 x1 : Int} (h0 : (x0 ≠ (0 : Int))) (h1 : ((x0 = (1 : Int)) → (x1 ≤ (128 : Int)))) (h2 : ((x0 = (0 : Int)) ∨ (x0 = (1 : Int)))) : (((2 : Int) ≠ (2 : Int)) ∨ (x1 ≤ (128 : Int))) := by omega
theorem q_4483 {x0 : Int} (h0 : ((0 : Int) < x0)) : (((2 : Int) ≤ (1 : Int)) ∨ ((0 : Int) < x0)) := by omega
theorem q_4484 {x0 x1 : Int} (h0 : (((0 : Int) ≤ x0) ∧ (x0 ≤ (1 : Int)))) : ((x0 ≤ (1 : Int)) ∨ ((0 : Int) < x1)) := by omega
theorem q_4485 {x0 : Int} (h0 : (((0 : Int) ≤ x0) ∧ (x0 ≤ (65539 : Int)))) : (((0 : Int) ≤ x0) ∧ (x0 ≤ (1000000 : Int))) := by omega
theorem q_4486 {x0 : Int} (h0 : (x0 ≤ (0 : Int))) (h1 : (((0 : Int) ≤ x0) ∧ (x0 ≤ (65539 : Int)))) : (((0 : Int) ≤ x0) ∧ (x0 ≤ (1000000 : Int))) := by omega
theorem q_4487 : (((-(2147483648 : Int)) ≤ (3 : Int)) ∧ ((3 : Int) ≤ (2147483647 : Int))) := by omega
theorem q_4488 {x0 : Int} : (((3 : Int) ≠ (1 : Int)) ∨ ((0 : Int) < x0)) := by omega
theorem q_4489 {x0 : Int} : (((0 : Int) ≠ (1 : Int)) ∨ ((0 : Int) < x0)) := by omega
theorem q_4490 {x0 x1 x2 : Int} (h0 : (x0 ≤ (0 : Int))) (h1 : (((0 : Int) ≤ x0) ∧ ((x0 ≤ x1) ∧ (x1 ≤ (65536 : Int))))) (h2 : (((1 : Int) ≤ x2) ∧ (x2 ≤ (3 : Int)))) : (((0 : Int) ≤ (x2 + x0)) ∧ ((x2 + x0) ≤ (65539 : Int))) := by omega
theorem q_4491 {x0 x1 x2 : Int} (h0 : (x0 ≤ (0 : Int))) (h1 : (((0 : Int) ≤ x0) ∧ ((x0 ≤ x1) ∧ (x1 ≤ (65536 : Int))))) (h2 : (((1 : Int) ≤ x2) ∧ (x2 ≤ (3 : Int)))) : (inr (x2 + x0)) := by omega
theorem q_4492 {x0 x1 : Int} (h0 : ((0 : Int) < x0)) (h1 : (x0 ≤ (16384 : Int))) (h2 : (((1 : Int) ≤ x1) ∧ (x1 ≤ (3 : Int)))) : (((0 : Int) ≤ (x1 + x0)) ∧ ((x1 + x0) ≤ (65539 : Int))) := by omega
theorem q_4493 {x0 x1 : Int} (h0 : ((0 : Int) < x0)) (h1 : (x0 ≤ (16384 : Int))) (h2 : (((1 : Int) ≤ x1) ∧ (x1 ≤ (3 : Int)))) : (inr (x1 + x0)) := by omega
theorem q_4494 {x0 x1 : Int} (h0 : ((0 : Int) < x0)) (h1 : ((x1 + x0) ≤ (x1 + (1 : Int)))) (h2 : (((1 : Int) ≤ x1) ∧ (x1 ≤ (3 : Int)))) : (((0 : Int) ≤ (x1 + x0)) ∧ ((x1 + x0) ≤ (65539 : Int))) := by omega
theorem q_4495 {x0 x1 : Int} (h0 : ((0 : Int) < x0)) (h1 : ((x1 + x0) ≤ (x1 + (1 : Int)))) (h2 : (((1 : Int) ≤ x1) ∧ (x1 ≤ (3 : Int)))) : (inr (x1 + x0)) := by omega
theorem q_4496 {x0 : Int} (h0 : ((0 : Int) < x0)) : (((1 : Int) ≠ (1 : Int)) ∨ ((0 : Int) < x0)) := by omega
theorem q_4497 {x0 : Int} (h0 : (((1 : Int) ≤ x0) ∧ (x0 ≤ (3 : Int)))) : (((0 : Int) ≤ (x0 + (1 : Int))) ∧ ((x0 + (1 : Int)) ≤ (65539 : Int))) := by omega
theorem q_4498 {x0 : Int} (h0 : ((32 : Int) ≤ x0)) (h1 : (x0 ≤ (16384 : Int))) : (inr x0) := by omega
theorem q_4499 {x0 : Int} (h0 : ((4096 : Int) ≤ x0)) : (((x0 < (32 : Int)) ∧ ((3 : Int) = (1 : Int))) ∨ ((((32 : Int) ≤ x0) ∧ ((x0 < (4096 : Int)) ∧ ((3 : Int) = (2 : Int)))) ∨ (((4096 : Int) ≤ x0) ∧ ((3 : Int) = (3 : Int))))) := by omega
theorem q_4500 {x0 : Int} (h0 : ((32 : Int) ≤ x0)) (h1 : (x0 < (4096 : Int))) : (((x0 < (32 : Int)) ∧ ((2 : Int) = (1 : Int))) ∨ ((((32 : Int) ≤ x0) ∧ ((x0 < (4096 : Int)) ∧ ((2 : Int) = (2 : Int)))) ∨ (((4096 : Int) ≤ x0) ∧ ((2 : Int) = (3 : Int))))) := by omega
theorem q_4501 {x0 : Int} (h0 : (x0 < (32 : Int))) : (((x0 < (32 : Int)) ∧ ((1 : Int) = (1 : Int))) ∨ ((((32 : Int) ≤ x0) ∧ ((x0 < (4096 : Int)) ∧ ((1 : Int) = (2 : Int)))) ∨ (((4096 : Int) ≤ x0) ∧ ((1 : Int) = (3 : Int))))) := by omega
theorem q_4502 {x0 : Int} (h0 : (x0 = (2 : Int))) : (((0 : Int) ≤ (1 : Int)) ∧ ((1 : Int) < x0)) := by omega
theorem q_4503 {x0 x1 : Int} (h0 : (((2 : Int) ≤ x0) ∧ (x0 ≤ (3 : Int)))) (h1 : (((0 : Int) ≤ x1) ∧ (x1 ≤ (1000000 : Int)))) (h2 : ((x0 ≤ (1 : Int)) ∨ ((0 : Int) < x1))) : ((0 : Int) < x1) := by omega
theorem q_4504 {x0 x1 x2 : Int} (h0 : (x0 ≤ (16384 : Int))) (h1 : ((x1 = (2 : Int)) ∧ (x2 ≤ (128 : Int)))) : ((x0 ≤ (16384 : Int)) ∧ ((x1 ≠ (2 : Int)) ∨ (x2 ≤ (128 : Int)))) := by omega
theorem q_4505 {x0 : Int} (h0 : ((0 : Int) < x0)) : (x0 ≠ (0 : Int)) := by omega
theorem q_4506 {x0 x1 x2 x3 x4 x5 x6 : Int} (h0 : (x0 = x1)) (h1 : ((x2 = x3) ∧ (x4 = x5))) (h2 : (x0 = x2)) : ((x1 = x3) ∨ (x1 = x6)) := by omega
theorem q_4507 {x0 x1 x2 : Int} (h0 : (x0 ≤ (16384 : Int))) (h1 : (x1 = (3 : Int))) : ((x0 ≤ (16384 : Int)) ∧ ((x1 ≠ (2 : Int)) ∨ (x2 ≤ (128 : Int)))) := by omega
theorem q_4508 {x0 : Int} (h0 : (x0 = (3 : Int))) : ((x0 = (2 : Int)) ∨ (x0 = (3 : Int))) := by omega
theorem q_4509 {x0 x1 x2 x3 x4 x5 x6 : Int} (h0 : (x0 = x1)) (h1 : ((x2 = x3) ∧ (x4 = x5))) (h2 : (x0 = x4)) (h3 : (x6 = x5)) : ((x1 = x3) ∨ (x1 = x6)) := by omega
theorem q_4510 {x0 x1 x2 x3 : Int} (h0 : ((x0 = (0 : Int)) ∧ ((x1 = (0 : Int)) ∧ (x2 = (0 : Int))))) : ((x3 ≠ (2 : Int)) ∨ (x0 ≤ (128 : Int))) := by omega
theorem q_4511 {x0 x1 x2 x3 : Int} (h0 : (x0 = x1)) (h1 : (x1 = x2)) : ((x3 ≠ (3 : Int)) ∨ (x0 = x2)) := by omega
theorem q_4512 {x0 x1 x2 x3 : Int} (h0 : ((((0 : Int) ≤ x0) ∧ (x0 ≤ (1 : Int))) ∨ (x0 = (3 : Int)))) (h1 : ((x0 ≤ (1 : Int)) ∨ ((0 : Int) < x1))) : ((x0 ≠ (2 : Int)) ∨ (x2 = x3)) := by omega
theorem q_4513 {x0 x1 : Int} (h0 : ((((0 : Int) ≤ x0) ∧ (x0 ≤ (1 : Int))) ∨ (x0 = (3 : Int)))) (h1 : ((x0 ≤ (1 : Int)) ∨ ((0 : Int) < x1))) : (((0 : Int) ≤ x0) ∧ (x0 ≤ (3 : Int))) := by omega
theorem q_4514 {x0 x1 x2 x3 : Int} (h0 : ((((0 : Int) ≤ x0) ∧ (x0 ≤ (1 : Int))) ∨ (x0 = (3 : Int)))) (h1 : ((x0 ≤ (1 : Int)) ∨ ((0 : Int) < x1))) (h2 : (((0 : Int) ≤ x2) ∧ ((x2 ≤ x3) ∧ (x3 ≤ (65536 : Int))))) : ((x0 ≠ (2 : Int)) ∨ (x2 ≤ (128 : Int))) := by omega
theorem q_4515 {x0 x1 x2 x3 : Int} (h0 : (x0 ≤ (0 : Int))) (h1 : ((x1 ≤ (1 : Int)) ∨ ((0 : Int) < x0))) (h2 : (((0 : Int) ≤ x2) ∧ ((x2 ≤ x3) ∧ (x3 ≤ (65536 : Int))))) : ((x1 ≠ (2 : Int)) ∨ (x2 ≤ (128 : Int))) := by omega
theorem q_4516 {x0 x1 x2 x3 : Int} (h0 : (x0 ≤ (0 : Int))) (h1 : ((x1 ≤ (1 : Int)) ∨ ((0 : Int) < x0))) : ((x1 ≠ (2 : Int)) ∨ (x2 = x3)) := by omega
theorem q_4517 {x0 x1 : Int} (h0 : (((-(2147483648 : Int)) ≤ x0) ∧ (x0 ≤ (2147483647 : Int)))) (h1 : (x1 ≤ (0 : Int))) (h2 : ((((0 : Int) ≤ x0) ∧ (x0 ≤ (1 : Int))) ∨ (x0 = (3 : Int)))) (h3 : ((x0 ≤ (1 : Int)) ∨ ((0 : Int) < x1))) : (((0 : Int) ≤ x0) ∧ (x0 ≤ (3 : Int))) := by omega
theorem q_4518 {x0 x1 x2 x3 x4 : Int} (h0 : ((x0 = x1) ∧ (x2 = x3))) : ((x0 = x1) ∨ (x0 = x4)) := by omega
theorem q_4519 {x0 x1 : Int} : (((2 : Int) ≠ (3 : Int)) ∨ (x0 = x1)) := by omega
theorem q_4520 {x0 x1 x2 x3 : Int} (h0 : ((x0 = x1) ∧ (x2 = x3))) : (((2 : Int) ≠ (2 : Int)) ∨ (x0 = x1)) := by omega
theorem q_4521 {x0 x1 x2 : Int} (h0 : (x0 ≠ (0 : Int))) (h1 : ((x0 = (1 : Int)) → (x1 ≤ (128 : Int)))) (h2 : ((x0 = (0 : Int)) ∨ (x0 = (1 : Int)))) : ((x2 ≠ (2 : Int)) ∨ (x1 ≤ (128 : Int))) := by omega
theorem q_4522 {x0 : Int} (h0 : (((0 : Int) ≤ x0) ∧ (x0 ≤ (1 : Int)))) : ((((0 : Int) ≤ x0) ∧ (x0 ≤ (1 : Int))) ∨ (x0 = (3 : Int))) := by omega
theorem q_4523 {x0 : Int} (h0 : ((0 : Int) < x0)) : (((3 : Int) ≤ (1 : Int)) ∨ ((0 : Int) < x0)) := by omega
theorem q_4524 : ((((0 : Int) ≤ (3 : Int)) ∧ ((3 : Int) ≤ (1 : Int))) ∨ ((3 : Int) = (3 : Int))) := by omega
theorem q_4525 {x0 x1 x2 x3 x4 x5 x6 : Int} (h0 : (x0 = x1)) (h1 : ((x2 = x3) ∧ (x4 = x5))) (h2 : (x0 = x4)) : ((x1 = x5) ∨ (x1 = x6)) := by omega
theorem q_4526 {x0 x1 x2 x3 x4 x5 x6 : Int} (h0 : (x0 = x1)) (h1 : ((x2 = x3) ∧ (x4 = x5))) (h2 : (x0 = x2)) (h3 : (x6 = x3)) : ((x1 = x5) ∨ (x1 = x6)) := by omega
theorem q_4527 {x0 x1 x2 x3 x4 : Int} (h0 : ((x0 = x1) ∧ (x2 = x3))) : ((x2 = x3) ∨ (x2 = x4)) := by omega
theorem q_4528 {x0 x1 x2 x3 : Int} (h0 : ((x0 = x1) ∧ (x2 = x3))) : (((2 : Int) ≠ (2 : Int)) ∨ (x2 = x3)) := by omega
theorem q_4529 {x0 x1 x2 x3 : Int} (h0 : ((((x0 + ((9 : Int) * x1)) + (16 : Int)) ≤ (65536 : Int)) ∧ ((x1 ≤ (5461 : Int)) ∧ ((x1 = (0 : Int)) ∨ (x2 < x0))))) (h1 : (((0 : Int) ≤ x1) ∧ (x1 ≤ x3))) : (inr (x1 - (1 : Int))) := by omega
theorem q_4530 {x0 x1 x2 x3 x4 : Int} (h0 : (((0 : Int) ≤ x0) ∧ (x0 ≤ (1000000 : Int)))) (h1 : ((x0 = (3 : Int)) ∧ ((x1 = (3 : Int)) ∧ ((x2 = (3 : Int)) ∧ ((x3 = (3 : Int)) ∧ (x4 = (3 : Int))))))) : (((0 : Int) ≤ (0 : Int)) ∧ ((0 : Int) < x0)) := by omega
theorem q_4531 {x0 x1 x2 x3 x4 : Int} (h0 : (((0 : Int) ≤ x0) ∧ (x0 ≤ (1000000 : Int)))) (h1 : ((x0 = (3 : Int)) ∧ ((x1 = (3 : Int)) ∧ ((x2 = (3 : Int)) ∧ ((x3 = (3 : Int)) ∧ (x4 = (3 : Int))))))) : (((0 : Int) ≤ (1 : Int)) ∧ ((1 : Int) < x0)) := by omega
theorem q_4532 {x0 x1 x2 x3 x4 : Int} (h0 : ((x0 = (3 : Int)) ∧ ((x1 = (3 : Int)) ∧ ((x2 = (3 : Int)) ∧ ((x3 = (3 : Int)) ∧ (x4 = (3 : Int))))))) : (((0 : Int) ≤ (2 : Int)) ∧ ((2 : Int) < x0)) := by omega
theorem q_4533 {x0 x1 x2 : Int} (h0 : ((0 : Int) ≤ (x0 - (1 : Int)))) (h1 : ((((x1 + ((9 : Int) * x0)) + (16 : Int)) ≤ (65536 : Int)) ∧ ((x0 ≤ (5461 : Int)) ∧ ((x0 = (0 : Int)) ∨ (x2 < x1))))) : (inr (((9 : Int) * x0) + (16 : Int))) := by omega
theorem q_4534 {x0 x1 x2 x3 x4 x5 x6 : Int} (h0 : (((0 : Int) ≤ x0) ∧ (x0 ≤ x1))) (h1 : ((x2 = (3 : Int)) ∧ ((x3 = x1) ∧ ((x4 = x1) ∧ ((x5 = x1) ∧ ((x6 = (0 : Int)) ∧ (x1 ≤ (16384 : Int)))))))) : ((x0 - (1 : Int)) < x5) := by omega
theorem q_4535 {x0 x1 x2 x3 x4 x5 x6 : Int} (h0 : (((0 : Int) ≤ x0) ∧ (x0 ≤ x1))) (h1 : ((x2 = (3 : Int)) ∧ ((x3 = x1) ∧ ((x4 = x1) ∧ ((x5 = x1) ∧ ((x6 = (0 : Int)) ∧ (x1 ≤ (16384 : Int)))))))) : ((x0 - (1 : Int)) < x4) := by omega
theorem q_4536 {x0 x1 x2 x3 x4 x5 x6 : Int} (h0 : (((0 : Int) ≤ x0) ∧ (x0 ≤ x1))) (h1 : ((x2 = (3 : Int)) ∧ ((x3 = x1) ∧ ((x4 = x1) ∧ ((x5 = x1) ∧ ((x6 = (0 : Int)) ∧ (x1 ≤ (16384 : Int)))))))) : ((x0 - (1 : Int)) < x3) := by omega
theorem q_4537 {x0 x1 x2 x3 x4 x5 : Int} (h0 : ((0 : Int) ≤ (x0 - (1 : Int)))) (h1 : (((0 : Int) ≤ x0) ∧ (x0 ≤ x1))) (h2 : ((x2 = x3) ∧ ((x4 = x3) ∧ ((x3 ≤ (65536 : Int)) ∧ (((x3 = (0 : Int)) ∨ ((64 : Int) ≤ x3)) ∧ (x5 = (0 : Int))))))) (h3 : (x0 ≤ x3)) : (((0 : Int) ≤ (x0 - (1 : Int))) ∧ (((x0 - (1 : Int)) < x1) ∧ (((x0 - (1 : Int)) < x2) ∧ ((x0 - (1 : Int)) < x3)))) := by omega
theorem q_4538 {x0 x1 x2 : Int} (h0 : ((0 : Int) ≤ (x0 - (1 : Int)))) (h1 : ((((x1 + ((9 : Int) * x0)) + (16 : Int)) ≤ (65536 : Int)) ∧ ((x0 ≤ (5461 : Int)) ∧ ((x0 = (0 : Int)) ∨ (x2 < x1))))) : (inr (x0 - (1 : Int))) := by omega
theorem q_4539 {x0 : Int} (h0 : ((0 : Int) ≤ (x0 - (1 : Int)))) : (((-(1 : Int)) ≤ ((x0 - (1 : Int)) - (1 : Int))) ∧ (((x0 - (1 : Int)) - (1 : Int)) ≤ (x0 - (2 : Int)))) := by omega
theorem q_4540 {x0 x1 x2 : Int} (h0 : ((0 : Int) ≤ (x0 - (1 : Int)))) (h1 : ((((x1 + ((9 : Int) * x0)) + (16 : Int)) ≤ (65536 : Int)) ∧ ((x0 ≤ (5461 : Int)) ∧ ((x0 = (0 : Int)) ∨ (x2 < x1))))) : (inr ((x0 - (1 : Int)) - (1 : Int))) := by omega
theorem q_4541 {x0 x1 x2 x3 : Int} (h0 : ((((x0 + ((9 : Int) * x1)) + (16 : Int)) ≤ (65536 : Int)) ∧ ((x1 ≤ (5461 : Int)) ∧ ((x1 = (0 : Int)) ∨ (x2 < x0))))) (h1 : (((-(1 : Int)) ≤ x3) ∧ (x3 ≤ (x1 - (2 : Int))))) : (inr x3) := by omega
theorem q_4542 {x0 x1 x2 : Int} (h0 : ((x0 = (0 : Int)) ∧ (x1 ≤ x2))) : (((0 : Int) ≤ x0) ∧ (x0 ≤ (7 : Int))) := by omega
theorem q_4543 {x0 x1 x2 x3 x4 : Int} (h0 : (((0 : Int) ≤ x0) ∧ (x0 ≤ (1000000 : Int)))) (h1 : ((x1 = (3 : Int)) ∧ ((x0 = (3 : Int)) ∧ ((x2 = (3 : Int)) ∧ ((x3 = (3 : Int)) ∧ (x4 = (3 : Int))))))) : (((0 : Int) ≤ (0 : Int)) ∧ ((0 : Int) < x0)) := by omega
theorem q_4544 {x0 : Int} (h0 : (((-(2147483648 : Int)) ≤ x0) ∧ (x0 ≤ (2147483647 : Int)))) (h1 : (x0 ≤ (9 : Int))) : (inr x0) := by omega
theorem q_4545 {x0 x1 x2 x3 x4 : Int} (h0 : (((0 : Int) ≤ x0) ∧ (x0 ≤ (1000000 : Int)))) (h1 : ((x1 = (3 : Int)) ∧ ((x0 = (3 : Int)) ∧ ((x2 = (3 : Int)) ∧ ((x3 = (3 : Int)) ∧ (x4 = (3 : Int))))))) : (((0 : Int) ≤ (1 : Int)) ∧ ((1 : Int) < x0)) := by omega
theorem q_4546 {x0 : Int} (h0 : (((-(2147483648 : Int)) ≤ x0) ∧ (x0 ≤ (2147483647 : Int)))) (h1 : (x0 ≤ (8 : Int))) : (inr x0) := by omega
theorem q_4547 {x0 x1 x2 x3 x4 : Int} (h0 : ((x0 = (3 : Int)) ∧ ((x1 = (3 : Int)) ∧ ((x2 = (3 : Int)) ∧ ((x3 = (3 : Int)) ∧ (x4 = (3 : Int))))))) : (((0 : Int) ≤ (2 : Int)) ∧ ((2 : Int) < x1)) := by omega
theorem q_4548 {x0 x1 x2 x3 x4 x5 x6 x7 x8 x9 : Int} (h0 : (((0 : Int) ≤ x0) ∧ (x0 ≤ (1000000 : Int)))) (h1 : ((((x1 + ((9 : Int) * x2)) + (16 : Int)) ≤ (65536 : Int)) ∧ ((x2 ≤ (5461 : Int)) ∧ ((x2 = (0 : Int)) ∨ (x3 < x1))))) (h2 : (((0 : Int) ≤ x2) ∧ (x2 ≤ x4))) (h3 : ((x5 = (3 : Int)) ∧ ((x6 = x4) ∧ ((x7 = x4) ∧ ((x0 = x4) ∧ ((x8 = (0 : Int)) ∧ (x4 ≤ (16384 : Int)))))))) (h4 : (((-(1 : Int)) ≤ x9) ∧ (x9 ≤ (x2 - (2 : Int))))) : (x9 < x0) := by omega
theorem q_4549 {x0 x1 x2 x3 x4 x5 x6 x7 x8 x9 : Int} (h0 : (((0 : Int) ≤ x0) ∧ (x0 ≤ (1000000 : Int)))) (h1 : ((((x1 + ((9 : Int) * x2)) + (16 : Int)) ≤ (65536 : Int)) ∧ ((x2 ≤ (5461 : Int)) ∧ ((x2 = (0 : Int)) ∨ (x3 < x1))))) (h2 : (((0 : Int) ≤ x2) ∧ (x2 ≤ x4))) (h3 : ((x5 = (3 : Int)) ∧ ((x6 = x4) ∧ ((x0 = x4) ∧ ((x7 = x4) ∧ ((x8 = (0 : Int)) ∧ (x4 ≤ (16384 : Int)))))))) (h4 : (((-(1 : Int)) ≤ x9) ∧ (x9 ≤ (x2 - (2 : Int))))) : (x9 < x0) := by omega
theorem q_4550 {x0 x1 x2 x3 x4 x5 x6 x7 x8 x9 : Int} (h0 : (((0 : Int) ≤ x0) ∧ (x0 ≤ (1000000 : Int)))) (h1 : ((((x1 + ((9 : Int) * x2)) + (16 : Int)) ≤ (65536 : Int)) ∧ ((x2 ≤ (5461 : Int)) ∧ ((x2 = (0 : Int)) ∨ (x3 < x1))))) (h2 : (((0 : Int) ≤ x2) ∧ (x2 ≤ x4))) (h3 : ((x5 = (3 : Int)) ∧ ((x0 = x4) ∧ ((x6 = x4) ∧ ((x7 = x4) ∧ ((x8 = (0 : Int)) ∧ (x4 ≤ (16384 : Int)))))))) (h4 : (((-(1 : Int)) ≤ x9) ∧ (x9 ≤ (x2 - (2 : Int))))) : (x9 < x0) := by omega
theorem q_4551 {x0 x1 x2 x3 x4 x5 x6 x7 x8 : Int} (h0 : (((0 : Int) ≤ x0) ∧ (x0 ≤ (1000000 : Int)))) (h1 : ((0 : Int) ≤ x1)) (h2 : ((((x2 + ((9 : Int) * x3)) + (16 : Int)) ≤ (65536 : Int)) ∧ ((x3 ≤ (5461 : Int)) ∧ ((x3 = (0 : Int)) ∨ (x4 < x2))))) (h3 : (((0 : Int) ≤ x3) ∧ (x3 ≤ x5))) (h4 : ((x0 = x6) ∧ ((x7 = x6) ∧ ((x6 ≤ (65536 : Int)) ∧ (((x6 = (0 : Int)) ∨ ((64 : Int) ≤ x6)) ∧ (x8 = (0 : Int))))))) (h5 : (x3 ≤ x6)) (h6 : (((-(1 : Int)) ≤ x1) ∧ (x1 ≤ (x3 - (2 : Int))))) : (((0 : Int) ≤ x1) ∧ ((x1 < x5) ∧ ((x1 < x0) ∧ (x1 < x6)))) := by omega
theorem q_4552 {x0 x1 x2 x3 : Int} (h0 : ((0 : Int) ≤ x0)) (h1 : ((((x1 + ((9 : Int) * x2)) + (16 : Int)) ≤ (65536 : Int)) ∧ ((x2 ≤ (5461 : Int)) ∧ ((x2 = (0 : Int)) ∨ (x3 < x1))))) (h2 : (((-(1 : Int)) ≤ x0) ∧ (x0 ≤ (x2 - (2 : Int))))) : (inr x0) := by omega
theorem q_4553 {x0 x1 x2 x3 : Int} (h0 : ((0 : Int) ≤ x0)) (h1 : ((((x1 + ((9 : Int) * x2)) + (16 : Int)) ≤ (65536 : Int)) ∧ ((x2 ≤ (5461 : Int)) ∧ ((x2 = (0 : Int)) ∨ (x3 < x1))))) (h2 : (((-(1 : Int)) ≤ x0) ∧ (x0 ≤ (x2 - (2 : Int))))) : (inr (x0 + (-(1 : Int)))) := by omega
theorem q_4554 {x0 x1 x2 x3 x4 x5 x6 x7 x8 x9 x10 : Int} (h0 : ((x0 = (3 : Int)) ∧ ((x1 = (3 : Int)) ∧ ((x2 = (3 : Int)) ∧ ((x3 = (3 : Int)) ∧ (x4 = (3 : Int))))))) (h1 : ((x5 = (3 : Int)) ∧ ((x6 = x7) ∧ ((x8 = x7) ∧ ((x9 = x7) ∧ ((x10 = (0 : Int)) ∧ (x7 ≤ (16384 : Int)))))))) : ((x5 = (3 : Int)) ∧ (x1 = (3 : Int))) := by omega
theorem q_4555 {x0 x1 x2 x3 x4 x5 x6 x7 x8 x9 : Int} (h0 : (((0 : Int) ≤ x0) ∧ (x0 ≤ (1000000 : Int)))) (h1 : ((0 : Int) ≤ x1)) (h2 : ((((x2 + ((9 : Int) * x3)) + (16 : Int)) ≤ (65536 : Int)) ∧ ((x3 ≤ (5461 : Int)) ∧ ((x3 = (0 : Int)) ∨ (x4 < x2))))) (h3 : (((0 : Int) ≤ x3) ∧ (x3 ≤ x5))) (h4 : ((x6 = (3 : Int)) ∧ ((x0 = x5) ∧ ((x7 = x5) ∧ ((x8 = x5) ∧ ((x9 = (0 : Int)) ∧ (x5 ≤ (16384 : Int)))))))) (h5 : (((-(1 : Int)) ≤ x1) ∧ (x1 ≤ (x3 - (2 : Int))))) : (((0 : Int) ≤ x1) ∧ (x1 < x0)) := by omega
theorem q_4556 {x0 x1 x2 : Int} (h0 : (x0 = x1)) (h1 : (((0 : Int) ≤ x2) ∧ (x2 < x1))) : (((0 : Int) ≤ x2) ∧ (x2 < x0)) := by omega
theorem q_4557 {x0 x1 x2 : Int} (h0 : (x0 = x1)) (h1 : (((0 : Int) ≤ x2) ∧ (x2 < x0))) : (((0 : Int) ≤ x2) ∧ (x2 < x1)) := by omega
theorem q_4558 {x0 x1 x2 x3 x4 x5 x6 x7 x8 x9 : Int} (h0 : (((0 : Int) ≤ x0) ∧ (x0 ≤ (1000000 : Int)))) (h1 : ((0 : Int) ≤ x1)) (h2 : ((((x2 + ((9 : Int) * x3)) + (16 : Int)) ≤ (65536 : Int)) ∧ ((x3 ≤ (5461 : Int)) ∧ ((x3 = (0 : Int)) ∨ (x4 < x2))))) (h3 : (((0 : Int) ≤ x3) ∧ (x3 ≤ x5))) (h4 : ((x6 = (3 : Int)) ∧ ((x7 = x5) ∧ ((x8 = x5) ∧ ((x0 = x5) ∧ ((x9 = (0 : Int)) ∧ (x5 ≤ (16384 : Int)))))))) (h5 : (((-(1 : Int)) ≤ x1) ∧ (x1 ≤ (x3 - (2 : Int))))) : (((0 : Int) ≤ x1) ∧ (x1 < x0)) := by omega
theorem q_4559 {x0 x1 x2 x3 x4 x5 x6 x7 x8 x9 : Int} (h0 : (((0 : Int) ≤ x0) ∧ (x0 ≤ (1000000 : Int)))) (h1 : ((0 : Int) ≤ x1)) (h2 : ((((x2 + ((9 : Int) * x3)) + (16 : Int)) ≤ (65536 : Int)) ∧ ((x3 ≤ (5461 : Int)) ∧ ((x3 = (0 : Int)) ∨ (x4 < x2))))) (h3 : (((0 : Int) ≤ x3) ∧ (x3 ≤ x5))) (h4 : ((x6 = (3 : Int)) ∧ ((x7 = x5) ∧ ((x0 = x5) ∧ ((x8 = x5) ∧ ((x9 = (0 : Int)) ∧ (x5 ≤ (16384 : Int)))))))) (h5 : (((-(1 : Int)) ≤ x1) ∧ (x1 ≤ (x3 - (2 : Int))))) : (((0 : Int) ≤ x1) ∧ (x1 < x0)) := by omega
theorem q_4560 {x0 x1 x2 x3 x4 x5 x6 : Int} (h0 : ((0 : Int) ≤ (x0 - (1 : Int)))) (h1 : (((0 : Int) ≤ x0) ∧ (x0 ≤ x1))) (h2 : ((x2 = (3 : Int)) ∧ ((x3 = x1) ∧ ((x4 = x1) ∧ ((x5 = x1) ∧ ((x6 = (0 : Int)) ∧ (x1 ≤ (16384 : Int)))))))) : (((0 : Int) ≤ (x0 - (1 : Int))) ∧ ((x0 - (1 : Int)) < x5)) := by omega
theorem q_4561 {x0 x1 x2 x3 x4 x5 x6 : Int} (h0 : ((0 : Int) ≤ (x0 - (1 : Int)))) (h1 : (((0 : Int) ≤ x0) ∧ (x0 ≤ x1))) (h2 : ((x2 = (3 : Int)) ∧ ((x3 = x1) ∧ ((x4 = x1) ∧ ((x5 = x1) ∧ ((x6 = (0 : Int)) ∧ (x1 ≤ (16384 : Int)))))))) : (((0 : Int) ≤ (x0 - (1 : Int))) ∧ ((x0 - (1 : Int)) < x4)) := by omega
theorem q_4562 {x0 x1 x2 x3 x4 x5 x6 : Int} (h0 : ((0 : Int) ≤ (x0 - (1 : Int)))) (h1 : (((0 : Int) ≤ x0) ∧ (x0 ≤ x1))) (h2 : ((x2 = (3 : Int)) ∧ ((x3 = x1) ∧ ((x4 = x1) ∧ ((x5 = x1) ∧ ((x6 = (0 : Int)) ∧ (x1 ≤ (16384 : Int)))))))) : (((0 : Int) ≤ (x0 - (1 : Int))) ∧ ((x0 - (1 : Int)) < x3)) := by omega
theorem q_4563 {x0 x1 : Int} (h0 : (((1 : Int) ≤ x0) ∧ ((x0 ≤ x1) ∧ (x1 ≤ (65536 : Int))))) : (((0 : Int) ≤ x0) ∧ ((x0 ≤ x1) ∧ (x1 ≤ (65536 : Int)))) := by omega
theorem q_4564 {x0 x1 x2 x3 x4 x5 : Int} (h0 : (((0 : Int) ≤ x0) ∧ (x0 ≤ (1000000 : Int)))) (h1 : ((x0 = (3 : Int)) ∧ ((x1 = (3 : Int)) ∧ ((x2 = (3 : Int)) ∧ ((x3 = (3 : Int)) ∧ ((x4 = (3 : Int)) ∧ (x5 = (3 : Int)))))))) : (((0 : Int) ≤ (0 : Int)) ∧ ((0 : Int) < x0)) := by omega
theorem q_4565 {x0 x1 x2 x3 x4 x5 : Int} (h0 : (((0 : Int) ≤ x0) ∧ (x0 ≤ (1000000 : Int)))) (h1 : ((x1 = (3 : Int)) ∧ ((x2 = (3 : Int)) ∧ ((x3 = (3 : Int)) ∧ ((x0 = (3 : Int)) ∧ ((x4 = (3 : Int)) ∧ (x5 = (3 : Int)))))))) : (((0 : Int) ≤ (0 : Int)) ∧ ((0 : Int) < x0)) := by omega
theorem q_4566 {x0 x1 x2 x3 x4 x5 : Int} (h0 : (((0 : Int) ≤ x0) ∧ (x0 ≤ (1000000 : Int)))) (h1 : ((x1 = (3 : Int)) ∧ ((x2 = (3 : Int)) ∧ ((x3 = (3 : Int)) ∧ ((x4 = (3 : Int)) ∧ ((x5 = (3 : Int)) ∧ (x0 = (3 : Int)))))))) : (((0 : Int) ≤ (0 : Int)) ∧ ((0 : Int) < x0)) := by omega
theorem q_4567 {x0 x1 x2 x3 x4 x5 x6 x7 x8 x9 : Int} (h0 : (x0 ≤ (512 : Int))) (h1 : ((x1 = x2) ∧ ((x3 = x2) ∧ ((x4 = x2) ∧ ((x5 = x2) ∧ ((x6 = x2) ∧ ((x7 = x8) ∧ ((x9 = x8) ∧ (x8 = (512 : Int)))))))))) : ((x1 = x2) ∧ ((x3 = x2) ∧ ((x4 = x2) ∧ ((x5 = x2) ∧ ((x6 = x2) ∧ ((x7 = x8) ∧ ((x9 = x8) ∧ (x0 ≤ x8)))))))) := by omega
theorem q_4568 {x0 x1 : Int} (h0 : (((1 : Int) ≤ x0) ∧ ((x0 ≤ x1) ∧ (x1 ≤ (65536 : Int))))) : (((0 : Int) ≤ (0 : Int)) ∧ ((0 : Int) < x1)) := by omega
theorem q_4569 {x0 x1 x2 x3 x4 x5 x6 x7 x8 : Int} (h0 : (x0 = (36 : Int))) (h1 : ((x1 = x0) ∧ ((x2 = x0) ∧ ((x3 = x0) ∧ ((x4 = x0) ∧ ((x5 = x0) ∧ ((x6 = x7) ∧ ((x8 = x7) ∧ (x7 = (512 : Int)))))))))) : ((x1 = x0) ∧ ((x2 = x0) ∧ ((x3 = x0) ∧ ((x4 = x0) ∧ ((x5 = x0) ∧ ((x6 = x7) ∧ ((x8 = x7) ∧ (((1 : Int) ≤ x0) ∧ (x0 ≤ (64 : Int)))))))))) := by omega
theorem q_4570 {x0 x1 x2 x3 x4 x5 x6 x7 x8 : Int} (h0 : ((x0 = x1) ∧ ((x2 = x1) ∧ ((x3 = x1) ∧ ((x4 = x1) ∧ ((x5 = x1) ∧ ((x6 = x7) ∧ ((x8 = x7) ∧ (x7 = (512 : Int)))))))))) : (x7 ≥ (1 : Int)) := by omega
theorem q_4571 {x0 x1 x2 x3 x4 x5 : Int} (h0 : (((0 : Int) ≤ x0) ∧ (x0 ≤ (1000000 : Int)))) (h1 : ((x1 = (3 : Int)) ∧ ((x0 = (3 : Int)) ∧ ((x2 = (3 : Int)) ∧ ((x3 = (3 : Int)) ∧ ((x4 = (3 : Int)) ∧ (x5 = (3 : Int)))))))) : (((0 : Int) ≤ (0 : Int)) ∧ ((0 : Int) < x0)) := by omega
theorem q_4572 {x0 x1 x2 x3 x4 x5 : Int} (h0 : (((0 : Int) ≤ x0) ∧ ((x0 ≤ (3 : Int)) ∧ (((x0 = (1 : Int)) ∧ (x1 = (1 : Int))) ∨ (((x0 = (2 : Int)) ∧ (((5 : Int) ≤ x2) ∧ ((x2 ≤ (9 : Int)) ∧ (x1 ≤ x3)))) ∨ ((x0 ≠ (1 : Int)) ∧ ((x0 ≠ (2 : Int)) ∧ (x4 ≠ x5)))))))) : (((x0 = (1 : Int)) ∧ (x1 = (1 : Int))) ∨ (((x0 = (2 : Int)) ∧ (((5 : Int) ≤ x2) ∧ ((x2 ≤ (9 : Int)) ∧ (x1 ≤ x3)))) ∨ ((x0 ≠ (1 : Int)) ∧ ((x0 ≠ (2 : Int)) ∧ (x4 ≠ x5))))) := by omega
theorem q_4573 {x0 x1 x2 x3 x4 x5 : Int} (h0 : (((0 : Int) ≤ x0) ∧ ((x0 ≤ (3 : Int)) ∧ (((x0 = (1 : Int)) ∧ (x1 = (1 : Int))) ∨ (((x0 = (2 : Int)) ∧ (((5 : Int) ≤ x2) ∧ ((x2 ≤ (9 : Int)) ∧ (x1 ≤ x3)))) ∨ ((x0 ≠ (1 : Int)) ∧ ((x0 ≠ (2 : Int)) ∧ (x4 ≠ x5)))))))) : (((0 : Int) ≤ x0) ∧ (x0 ≤ (3 : Int))) := by omega
theorem q_4574 {x0 x1 x2 x3 x4 x5 : Int} (h0 : (((0 : Int) ≤ x0) ∧ (x0 ≤ (1000000 : Int)))) (h1 : ((x1 = (3 : Int)) ∧ ((x2 = (3 : Int)) ∧ ((x0 = (3 : Int)) ∧ ((x3 = (3 : Int)) ∧ ((x4 = (3 : Int)) ∧ (x5 = (3 : Int)))))))) : (((0 : Int) ≤ (0 : Int)) ∧ ((0 : Int) < x0)) := by omega
theorem q_4575 : (((8 : Int) = (2147483647 : Int)) ∨ (((0 : Int) ≤ (8 : Int)) ∧ ((8 : Int) ≤ (600000 : Int)))) := by omega
theorem q_4576 : (((2147483647 : Int) = (2147483647 : Int)) ∨ (((0 : Int) ≤ (2147483647 : Int)) ∧ ((2147483647 : Int) ≤ (600000 : Int)))) := by omega
theorem q_4577 {x0 x1 x2 : Int} (h0 : (((1 : Int) ≤ x0) ∧ ((x0 ≤ x1) ∧ (x1 ≤ (65536 : Int))))) (h1 : (((0 : Int) ≤ x2) ∧ (x2 ≤ ((9 : Int) * x0)))) : ((x2 = (2147483647 : Int)) ∨ (((0 : Int) ≤ x2) ∧ (x2 ≤ (600000 : Int)))) := by omega
theorem q_4578 {x0 : Int} (h0 : (((0 : Int) ≤ x0) ∧ (x0 ≤ (1000000 : Int)))) (h1 : (x0 = (3 : Int))) : (((0 : Int) ≤ (0 : Int)) ∧ ((0 : Int) < x0)) := by omega
theorem q_4579 {x0 x1 x2 x3 : Int} (h0 : (((0 : Int) ≤ x0) ∧ (x0 ≤ (1000000 : Int)))) (h1 : ((x0 = (53 : Int)) ∧ (x1 = (3 : Int)))) (h2 : ((x2 = (36 : Int)) ∧ (x3 = x2))) : ((x2 ≤ x0) ∧ (x3 = x2)) := by omega
theorem q_4580 {x0 : Int} (h0 : (((0 : Int) ≤ x0) ∧ (x0 ≤ (1000000 : Int)))) (h1 : (x0 = (3 : Int))) : (((0 : Int) ≤ (1 : Int)) ∧ ((1 : Int) < x0)) := by omega
theorem q_4581 {x0 x1 x2 x3 : Int} (h0 : (((0 : Int) ≤ x0) ∧ (x0 ≤ (1000000 : Int)))) (h1 : ((x0 = (53 : Int)) ∧ (x1 = (3 : Int)))) (h2 : ((x2 = (32 : Int)) ∧ (x3 = x2))) : ((x2 ≤ x0) ∧ (x3 = x2)) := by omega
theorem q_4582 {x0 x1 x2 x3 : Int} (h0 : ((x0 = (53 : Int)) ∧ (x1 = (3 : Int)))) (h1 : ((x2 = (53 : Int)) ∧ (x3 = x2))) : ((x2 ≤ x0) ∧ (x3 = x2)) := by omega
theorem q_4583 {x0 x1 x2 x3 x4 : Int} (h0 : (((0 : Int) ≤ x0) ∧ (x0 ≤ (1000000 : Int)))) (h1 : ((x0 = (10 : Int)) ∧ ((x1 = (2 : Int)) ∧ ((x2 = (3 : Int)) ∧ ((x3 = (3 : Int)) ∧ (x4 = (3 : Int))))))) : (((0 : Int) ≤ (0 : Int)) ∧ ((0 : Int) < x0)) := by omega
theorem q_4584 {x0 x1 x2 x3 x4 : Int} (h0 : (((0 : Int) ≤ x0) ∧ (x0 ≤ (1000000 : Int)))) (h1 : ((x0 = (10 : Int)) ∧ ((x1 = (2 : Int)) ∧ ((x2 = (3 : Int)) ∧ ((x3 = (3 : Int)) ∧ (x4 = (3 : Int))))))) : (((0 : Int) ≤ (1 : Int)) ∧ ((1 : Int) < x0)) := by omega
theorem q_4585 {x0 x1 x2 x3 x4 : Int} (h0 : ((x0 = (10 : Int)) ∧ ((x1 = (2 : Int)) ∧ ((x2 = (3 : Int)) ∧ ((x3 = (3 : Int)) ∧ (x4 = (3 : Int))))))) : (x0 = (10 : Int)) := by omega
theorem q_4586 {x0 x1 x2 : Int} (h0 : (((0 : Int) ≤ x0) ∧ ((x0 ≤ x1) ∧ (x1 ≤ (65536 : Int))))) (h1 : (x2 = x0)) : (((0 : Int) ≤ (0 : Int)) ∧ (((0 : Int) ≤ x0) ∧ (x0 ≤ x2))) := by omega
theorem q_4587 {x0 x1 : Int} (h0 : (((0 : Int) ≤ x0) ∧ (x0 ≤ (1000000 : Int)))) (h1 : (x0 ≤ (16384 : Int))) (h2 : (x1 = (0 : Int))) : (((0 : Int) ≤ x1) ∧ ((x1 ≤ x0) ∧ (x0 ≤ (16384 : Int)))) := by omega
theorem q_4588 {x0 x1 : Int} (h0 : (((1 : Int) ≤ x0) ∧ (x0 ≤ (8 : Int)))) (h1 : ((3 : Int) ≤ x0)) (h2 : (x1 = x0)) : (((1 : Int) ≤ x1) ∧ (x1 ≤ (8 : Int))) := by omega
theorem q_4589 {x0 : Int} (h0 : ((8 : Int) ≤ x0)) (h1 : (x0 ≤ (16384 : Int))) : (inr x0) := by omega
theorem q_4590 {x0 x1 x2 : Int} (h0 : (((-(2147483648 : Int)) ≤ x0) ∧ (x0 ≤ (2147483647 : Int)))) (h1 : (((0 : Int) ≤ x0) ∧ ((x0 ≤ x1) ∧ (x0 ≤ (x2 - (0 : Int)))))) : (inr x0) := by omega
theorem q_4591 {x0 x1 x2 x3 : Int} (h0 : ((x0 = (0 : Int)) ∧ ((x1 = (0 : Int)) ∧ ((x2 = (0 : Int)) ∧ (x3 = (0 : Int)))))) : (x1 = (0 : Int)) := by omega
theorem q_4592 {x0 x1 x2 x3 x4 : Int} (h0 : (((0 : Int) ≤ x0) ∧ (x0 ≤ (1000000 : Int)))) (h1 : ((x1 = (10 : Int)) ∧ ((x0 = (2 : Int)) ∧ ((x2 = (3 : Int)) ∧ ((x3 = (3 : Int)) ∧ (x4 = (3 : Int))))))) : (((0 : Int) ≤ (0 : Int)) ∧ ((0 : Int) < x0)) := by omega
theorem q_4593 : (inrJ (-(332356553 : Int))) := by omega
theorem q_4594 {x0 x1 x2 x3 x4 : Int} (h0 : ((x0 = (10 : Int)) ∧ ((x1 = (2 : Int)) ∧ ((x2 = (3 : Int)) ∧ ((x3 = (3 : Int)) ∧ (x4 = (3 : Int))))))) : (((0 : Int) ≤ (9 : Int)) ∧ ((9 : Int) < x0)) := by omega
theorem q_4595 {x0 x1 : Int} (h0 : (((0 : Int) ≤ x0) ∧ ((x0 ≤ (128 : Int)) ∧ (x1 = x0)))) : (inr x0) := by omega
theorem q_4596 {x0 x1 x2 x3 x4 : Int} (h0 : ((x0 = (10 : Int)) ∧ ((x1 = (2 : Int)) ∧ ((x2 = (3 : Int)) ∧ ((x3 = (3 : Int)) ∧ (x4 = (3 : Int))))))) : ((x3 = (3 : Int)) ∧ (x4 = (3 : Int))) := by omega
theorem q_4597 {x0 x1 x2 x3 x4 : Int} (h0 : ((x0 = (10 : Int)) ∧ ((x1 = (2 : Int)) ∧ ((x2 = (3 : Int)) ∧ ((x3 = (3 : Int)) ∧ (x4 = (3 : Int))))))) : (x4 = (3 : Int)) := by omega
theorem q_4598 {x0 x1 x2 : Int} (h0 : (((0 : Int) ≤ x0) ∧ ((x0 ≤ x1) ∧ (x0 ≤ (x2 - (0 : Int)))))) : (((0 : Int) ≤ x0) ∧ (x0 ≤ x1)) := by omega
theorem q_4599 {x0 x1 x2 x3 x4 : Int} (h0 : ((x0 = (10 : Int)) ∧ ((x1 = (2 : Int)) ∧ ((x2 = (3 : Int)) ∧ ((x3 = (3 : Int)) ∧ (x4 = (3 : Int))))))) : (x2 = (3 : Int)) := by omega
theorem q_4600 {x0 x1 x2 x3 x4 x5 x6 : Int} (h0 : (x0 = (53 : Int))) (h1 : ((x1 = (3 : Int)) ∧ ((x2 = x3) ∧ ((x4 = x3) ∧ ((x5 = x3) ∧ ((x6 = (0 : Int)) ∧ (x3 ≤ (16384 : Int)))))))) : ((x0 = (53 : Int)) ∧ (x1 = (3 : Int))) := by omega
theorem q_4601 {x0 x1 x2 x3 : Int} (h0 : (((0 : Int) ≤ x0) ∧ ((x0 ≤ x1) ∧ ((x1 ≤ x2) ∧ (x2 ≤ (65536 : Int)))))) (h1 : ((x0 ≤ x3) ∧ (x3 ≤ x1))) : (inr (x3 - x0)) := by omega
theorem q_4602 {x0 x1 x2 x3 : Int} (h0 : (((0 : Int) ≤ x0) ∧ ((x0 ≤ x1) ∧ (x1 ≤ (65536 : Int))))) (h1 : ((x0 ≤ x2) ∧ (x2 ≤ x3))) : (((0 : Int) ≤ x0) ∧ (x0 ≤ x2)) := by omega
theorem q_4603 {x0 x1 x2 : Int} (h0 : (((0 : Int) ≤ x0) ∧ ((x0 ≤ (65536 : Int)) ∧ (x1 ≤ x0)))) (h1 : ((x1 ≤ x2) ∧ (x2 ≤ x0))) : (((0 : Int) ≤ x0) ∧ ((x0 ≤ (65536 : Int)) ∧ (x2 ≤ x0))) := by omega
theorem q_4604 {x0 x1 x2 x3 : Int} (h0 : ((x0 ≤ x1) ∧ (x1 ≤ x2))) (h1 : (((0 : Int) ≤ x3) ∧ (x3 ≤ x1))) : (((0 : Int) ≤ x3) ∧ (x3 ≤ x2)) := by omega
theorem q_4605 {x0 x1 : Int} (h0 : (((0 : Int) ≤ x0) ∧ (x0 ≤ (20 : Int)))) (h1 : (x1 = x0)) : (((0 : Int) ≤ x1) ∧ (x1 ≤ (20 : Int))) := by omega
theorem q_4606 {x0 x1 x2 : Int} (h0 : (x0 ≠ (0 : Int))) : ((x0 ≠ (0 : Int)) ∨ (((0 : Int) ≤ (0 : Int)) ∧ (((0 : Int) ≤ (x1 - x1)) ∧ ((0 : Int) ≤ x2)))) := by omega
theorem q_4607 {x0 : Int} (h0 : (((0 : Int) ≤ x0) ∧ (x0 ≤ (17 : Int)))) : (((0 : Int) ≤ x0) ∧ (x0 ≤ (20 : Int))) := by omega
theorem q_4608 {x0 x1 x2 x3 : Int} (h0 : (((0 : Int) ≤ x0) ∧ ((x0 ≤ (131072 : Int)) ∧ ((x0 ≤ x1) ∨ (x1 = (65536 : Int)))))) : ((x2 ≠ (0 : Int)) ∨ (((0 : Int) ≤ (0 : Int)) ∧ (((0 : Int) ≤ (x3 - x3)) ∧ ((0 : Int) ≤ x0)))) := by omega
theorem q_4609 {x0 : Int} (h0 : (x0 = (0 : Int))) (h1 : (((0 : Int) ≤ x0) ∧ (x0 ≤ (17 : Int)))) : (((0 : Int) ≤ x0) ∧ (x0 ≤ (20 : Int))) := by omega
theorem q_4610 {x0 x1 x2 x3 x4 x5 : Int} (h0 : ((x0 = (5 : Int)) ∧ ((x1 = (3 : Int)) ∧ ((x2 = (3 : Int)) ∧ ((x3 = (3 : Int)) ∧ ((x4 = (3 : Int)) ∧ (x5 = (3 : Int)))))))) : ((x4 = (3 : Int)) ∧ (x5 = (3 : Int))) := by omega
theorem q_4611 {x0 x1 x2 x3 x4 x5 : Int} (h0 : ((x0 = (5 : Int)) ∧ ((x1 = (3 : Int)) ∧ ((x2 = (3 : Int)) ∧ ((x3 = (3 : Int)) ∧ ((x4 = (3 : Int)) ∧ (x5 = (3 : Int)))))))) : ((x2 = (3 : Int)) ∧ (x3 = (3 : Int))) := by omega
theorem q_4612 {x0 : Int} (h0 : ((0 : Int) < x0)) (h1 : (((0 : Int) ≤ x0) ∧ (x0 ≤ (100000 : Int)))) : (((1 : Int) ≤ x0) ∧ (x0 ≤ (200000 : Int))) := by omega
theorem q_4613 {x0 x1 x2 x3 x4 x5 : Int} (h0 : ((x0 = (5 : Int)) ∧ ((x1 = (3 : Int)) ∧ ((x2 = (3 : Int)) ∧ ((x3 = (3 : Int)) ∧ ((x4 = (3 : Int)) ∧ (x5 = (3 : Int)))))))) : ((x0 = (5 : Int)) ∧ (x1 = (3 : Int))) := by omega
theorem q_4614 {x0 x1 x2 x3 : Int} (h0 : ((x0 ≤ x1) ∧ (x1 ≤ x2))) (h1 : (((0 : Int) ≤ x3) ∧ (x3 ≤ x1))) : ((x3 ≤ x1) ∧ (x1 ≤ x2)) := by omega
theorem q_4615 {x0 x1 x2 x3 x4 : Int} (h0 : (((0 : Int) ≤ x0) ∧ ((x0 ≤ x1) ∧ ((x1 ≤ x2) ∧ (x2 ≤ (65536 : Int)))))) (h1 : ((x0 ≤ x3) ∧ (x3 ≤ x1))) (h2 : (((0 : Int) ≤ x4) ∧ (x4 ≤ x3))) : (((0 : Int) ≤ x4) ∧ ((x4 ≤ x1) ∧ ((x1 ≤ x2) ∧ (x2 ≤ (65536 : Int))))) := by omega
theorem q_4616 {x0 x1 x2 x3 x4 x5 : Int} (h0 : ((x0 = (5 : Int)) ∧ ((x1 = (3 : Int)) ∧ ((x2 = (3 : Int)) ∧ ((x3 = (3 : Int)) ∧ ((x4 = (3 : Int)) ∧ (x5 = (3 : Int)))))))) : ((x3 = (3 : Int)) ∧ ((x4 = (3 : Int)) ∧ (x5 = (3 : Int)))) := by omega
theorem q_4617 {x0 x1 x2 x3 : Int} (h0 : (x0 ≤ (x1 - x2))) (h1 : ((x2 ≤ x1) ∧ (x1 ≤ x3))) : (((x2 + x0) ≤ x1) ∧ (x1 ≤ x3)) := by omega
theorem q_4618 {x0 x1 x2 x3 x4 x5 : Int} (h0 : (x0 ≤ (x1 - x2))) (h1 : (((0 : Int) ≤ x2) ∧ ((x2 ≤ x3) ∧ ((x3 ≤ x4) ∧ (x4 ≤ (65536 : Int)))))) (h2 : ((x2 ≤ x1) ∧ (x1 ≤ x3))) (h3 : (((x5 ≥ (128 : Int)) ∧ ((x5 ≥ (255 : Int)) ∧ (x0 = (3 : Int)))) ∨ (((x5 ≥ (128 : Int)) ∧ ((x5 < (255 : Int)) ∧ (x0 = (2 : Int)))) ∨ ((x5 < (128 : Int)) ∧ (x0 = (1 : Int)))))) : (((0 : Int) ≤ (x2 + x0)) ∧ (((x2 + x0) ≤ x3) ∧ ((x3 ≤ x4) ∧ (x4 ≤ (65536 : Int))))) := by omega
theorem q_4619 {x0 x1 : Int} (h0 : (x0 ≠ (0 : Int))) : ((x0 ≠ (0 : Int)) ∨ (x1 = (0 : Int))) := by omega
theorem q_4620 {x0 x1 x2 x3 x4 : Int} (h0 : (((0 : Int) ≤ x0) ∧ (((x1 + x2) ≤ x0) ∧ (x0 ≤ x3)))) (h1 : (x0 ≤ x4)) : (((0 : Int) ≤ x0) ∧ (x0 ≤ x4)) := by omega
theorem q_4621 {x0 : Int} : ((x0 ≠ (0 : Int)) ∨ ((0 : Int) = (0 : Int))) := by omega
theorem q_4622 {x0 x1 x2 x3 x4 x5 : Int} (h0 : (x0 ≤ (x1 - x2))) (h1 : (((0 : Int) ≤ x2) ∧ ((x2 ≤ x3) ∧ ((x3 ≤ x4) ∧ (x4 ≤ (65536 : Int)))))) (h2 : (((x5 ≥ (128 : Int)) ∧ ((x5 ≥ (255 : Int)) ∧ (x0 = (3 : Int)))) ∨ (((x5 ≥ (128 : Int)) ∧ ((x5 < (255 : Int)) ∧ (x0 = (2 : Int)))) ∨ ((x5 < (128 : Int)) ∧ (x0 = (1 : Int)))))) : (((0 : Int) ≤ (x2 + x0)) ∧ ((x2 + x0) ≤ x1)) := by omega
theorem q_4623 {x0 x1 x2 x3 : Int} (h0 : (x0 ≠ (0 : Int))) : ((x0 ≠ (0 : Int)) ∨ (x1 ≤ (x2 + x3))) := by omega
theorem q_4624 {x0 x1 x2 x3 : Int} (h0 : (x0 ≤ (x1 + x2))) : ((x3 ≠ (0 : Int)) ∨ (x0 ≤ (x1 + x2))) := by omega
theorem q_4625 {x0 x1 x2 x3 x4 : Int} (h0 : ((x0 + x1) < x2)) (h1 : (((0 : Int) ≤ x0) ∧ ((x0 ≤ x3) ∧ ((x3 ≤ x4) ∧ (x4 ≤ (65536 : Int)))))) (h2 : ((x0 ≤ x2) ∧ (x2 ≤ x3))) (h3 : (inr x1)) : (inr (x0 + x1)) := by omega
theorem q_4626 {x0 x1 x2 x3 x4 x5 : Int} (h0 : ((x0 + x1) < x2)) (h1 : (((0 : Int) ≤ x0) ∧ ((x0 ≤ x3) ∧ ((x3 ≤ x4) ∧ (x4 ≤ (65536 : Int)))))) (h2 : ((x0 ≤ x2) ∧ (x2 ≤ x3))) (h3 : (((x5 ≥ (128 : Int)) ∧ ((x5 ≥ (255 : Int)) ∧ (x1 = (3 : Int)))) ∨ (((x5 ≥ (128 : Int)) ∧ ((x5 < (255 : Int)) ∧ (x1 = (2 : Int)))) ∨ ((x5 < (128 : Int)) ∧ (x1 = (1 : Int)))))) : (((0 : Int) ≤ (x0 + x1)) ∧ ((x0 + x1) ≤ x3)) := by omega
theorem q_4627 {x0 : Int} (h0 : (x0 = (15 : Int))) : (((0 : Int) ≤ x0) ∧ (x0 ≤ (20 : Int))) := by omega
theorem q_4628 {x0 x1 x2 : Int} (h0 : (((0 : Int) ≤ x0) ∧ ((x0 ≤ x1) ∧ ((x1 ≤ x2) ∧ (x2 ≤ (65536 : Int)))))) : (inr (x0 + (1 : Int))) := by omega
theorem q_4629 {x0 x1 x2 x3 x4 : Int} (h0 : (x0 = (2 : Int))) (h1 : (x0 ≤ (x1 - x2))) (h2 : (((0 : Int) ≤ x2) ∧ ((x2 ≤ x3) ∧ ((x3 ≤ x4) ∧ (x4 ≤ (65536 : Int)))))) (h3 : ((x2 ≤ x1) ∧ (x1 ≤ x3))) : (((0 : Int) ≤ (x2 + (1 : Int))) ∧ ((x2 + (1 : Int)) < x4)) := by omega
theorem q_4630 {x0 x1 x2 : Int} (h0 : (x0 = (2 : Int))) (h1 : (((0 : Int) ≤ x1) ∧ (x1 ≤ (255 : Int)))) (h2 : (((x1 ≥ (128 : Int)) ∧ ((x1 ≥ (255 : Int)) ∧ (x0 = (3 : Int)))) ∨ (((x1 ≥ (128 : Int)) ∧ ((x1 < (255 : Int)) ∧ (x0 = (2 : Int)))) ∨ ((x1 < (128 : Int)) ∧ (x0 = (1 : Int)))))) : (((0 : Int) ≤ (((256 : Int) * (x1 - (128 : Int))) + (x2 % (256 : Int)))) ∧ ((((256 : Int) * (x1 - (128 : Int))) + (x2 % (256 : Int))) ≤ (100000 : Int))) := by omega
theorem q_4631 {x0 x1 : Int} (h0 : (((0 : Int) ≤ x0) ∧ (x0 ≤ (255 : Int)))) : (inr (((256 : Int) * (x0 - (128 : Int))) + (x1 % (256 : Int)))) := by omega
theorem q_4632 {x0 : Int} (h0 : (((0 : Int) ≤ x0) ∧ (x0 ≤ (255 : Int)))) : (((0 : Int) ≤ x0) ∧ (x0 ≤ (100000 : Int))) := by omega
theorem q_4633 {x0 : Int} (h0 : ((255 : Int) ≤ x0)) : (((x0 ≥ (128 : Int)) ∧ ((x0 ≥ (255 : Int)) ∧ ((3 : Int) = (3 : Int)))) ∨ (((x0 ≥ (128 : Int)) ∧ ((x0 < (255 : Int)) ∧ ((3 : Int) = (2 : Int)))) ∨ ((x0 < (128 : Int)) ∧ ((3 : Int) = (1 : Int))))) := by omega
theorem q_4634 {x0 : Int} (h0 : ((128 : Int) ≤ x0)) (h1 : (x0 < (255 : Int))) : (((x0 ≥ (128 : Int)) ∧ ((x0 ≥ (255 : Int)) ∧ ((2 : Int) = (3 : Int)))) ∨ (((x0 ≥ (128 : Int)) ∧ ((x0 < (255 : Int)) ∧ ((2 : Int) = (2 : Int)))) ∨ ((x0 < (128 : Int)) ∧ ((2 : Int) = (1 : Int))))) := by omega
theorem q_4635 {x0 : Int} (h0 : (x0 < (128 : Int))) : (((x0 ≥ (128 : Int)) ∧ ((x0 ≥ (255 : Int)) ∧ ((1 : Int) = (3 : Int)))) ∨ (((x0 ≥ (128 : Int)) ∧ ((x0 < (255 : Int)) ∧ ((1 : Int) = (2 : Int)))) ∨ ((x0 < (128 : Int)) ∧ ((1 : Int) = (1 : Int))))) := by omega
theorem q_4636 {x0 x1 x2 x3 x4 : Int} (h0 : (x0 ≤ (x1 - x2))) (h1 : (x0 = (2 : Int))) (h2 : (((0 : Int) ≤ x2) ∧ ((x2 ≤ x3) ∧ ((x3 ≤ x4) ∧ (x4 ≤ (65536 : Int)))))) (h3 : ((x2 ≤ x1) ∧ (x1 ≤ x3))) : (((0 : Int) ≤ (x2 + (1 : Int))) ∧ ((x2 + (1 : Int)) < x4)) := by omega
theorem q_4637 {x0 x1 : Int} (h0 : (x0 = (0 : Int))) (h1 : (x1 = (0 : Int))) : (((0 : Int) ≤ x1) ∧ (x1 ≤ x0)) := by omega
theorem q_4638 {x0 x1 x2 : Int} (h0 : (x0 = (0 : Int))) (h1 : (x1 = (0 : Int))) : ((x2 ≠ (0 : Int)) ∨ (((0 : Int) ≤ x0) ∧ ((x0 ≤ (0 : Int)) ∧ (((0 : Int) ≤ x1) ∧ (x1 ≤ (0 : Int)))))) := by omega
theorem q_4639 {x0 : Int} : ((x0 ≠ (0 : Int)) ∨ ((0 : Int) ≤ (0 : Int))) := by omega
theorem q_4640 {x0 x1 x2 x3 x4 x5 x6 x7 : Int} (h0 : (((0 : Int) ≤ x0) ∧ (x0 ≤ (1000000 : Int)))) (h1 : ((x0 = (5 : Int)) ∧ ((x1 = (3 : Int)) ∧ ((x2 = (3 : Int)) ∧ ((x3 = (3 : Int)) ∧ ((x4 = (3 : Int)) ∧ ((x5 = (3 : Int)) ∧ ((x6 = (3 : Int)) ∧ (x7 = (3 : Int)))))))))) : (((0 : Int) ≤ (3 : Int)) ∧ ((3 : Int) < x0)) := by omega
theorem q_4641 {x0 x1 x2 x3 x4 x5 x6 : Int} (h0 : (x0 = x1)) (h1 : (x2 = x3)) (h2 : (x4 = (x3 + (x5 - x1)))) : ((x6 - x5) = (((x6 - x0) + x2) - x4)) := by omega
theorem q_4642 {x0 x1 x2 x3 x4 x5 x6 x7 : Int} (h0 : ((x0 = (5 : Int)) ∧ ((x1 = (3 : Int)) ∧ ((x2 = (3 : Int)) ∧ ((x3 = (3 : Int)) ∧ ((x4 = (3 : Int)) ∧ ((x5 = (3 : Int)) ∧ ((x6 = (3 : Int)) ∧ (x7 = (3 : Int)))))))))) : (x0 = (5 : Int)) := by omega
theorem q_4643 {x0 x1 : Int} (h0 : (((0 : Int) ≤ x0) ∧ (x0 ≤ (65536 : Int)))) (h1 : (x1 ≤ x0)) : (((0 : Int) ≤ x0) ∧ ((x0 ≤ (65536 : Int)) ∧ (x1 ≤ x0))) := by omega
theorem q_4644 {x0 x1 x2 : Int} (h0 : (((0 : Int) ≤ x0) ∧ ((x0 ≤ x1) ∧ (x1 ≤ (65536 : Int))))) (h1 : (((0 : Int) ≤ x2) ∧ (x2 ≤ x0))) : (((0 : Int) ≤ x2) ∧ ((x2 ≤ x0) ∧ ((x0 ≤ x1) ∧ (x1 ≤ (65536 : Int))))) := by omega
theorem q_4645 {x0 x1 x2 x3 : Int} (h0 : ((x0 = x1) ∧ (x2 = x3))) : (x0 = x1) := by omega
theorem q_4646 {x0 x1 x2 x3 : Int} (h0 : ((x0 = x1) ∧ (x2 = x3))) : (x2 = x3) := by omega
theorem q_4647 {x0 x1 x2 x3 : Int} (h0 : (x0 ≠ (0 : Int))) : ((x0 ≠ (0 : Int)) ∨ (((0 : Int) ≤ x1) ∧ ((x1 ≤ x2) ∧ (((0 : Int) ≤ x3) ∧ (x3 ≤ x2))))) := by omega
theorem q_4648 {x0 x1 x2 : Int} (h0 : (x0 ≠ (0 : Int))) : ((x0 ≠ (0 : Int)) ∨ ((x1 + (1 : Int)) ≤ x2)) := by omega
theorem q_4649 {x0 x1 x2 x3 x4 x5 : Int} (h0 : (((0 : Int) ≤ x0) ∧ ((x0 ≤ x1) ∧ (((0 : Int) ≤ x2) ∧ ((x2 ≤ (255 : Int)) ∧ (((0 : Int) ≤ x3) ∧ ((x3 + x4) ≤ x5))))))) : (((0 : Int) ≤ x3) ∧ ((x3 + x4) ≤ x5)) := by omega
theorem q_4650 {x0 x1 x2 x3 x4 x5 : Int} (h0 : (((0 : Int) ≤ x0) ∧ ((x0 ≤ x1) ∧ (((0 : Int) ≤ x2) ∧ ((x2 ≤ (255 : Int)) ∧ (((0 : Int) ≤ x3) ∧ ((x3 + x4) ≤ x5))))))) : (((0 : Int) ≤ x2) ∧ (x2 ≤ (255 : Int))) := by omega
theorem q_4651 {x0 x1 x2 : Int} (h0 : (((0 : Int) ≤ x0) ∧ ((x1 ≤ x0) ∧ (x0 ≤ x2)))) : (((0 : Int) ≤ x0) ∧ (x0 ≤ x2)) := by omega
theorem q_4652 {x0 x1 x2 x3 x4 : Int} (h0 : (x0 ≠ (0 : Int))) : ((x0 ≠ (0 : Int)) ∨ (((3 : Int) ≤ (x1 - x2)) ∧ (x3 = (x4 + (1 : Int))))) := by omega
theorem q_4653 {x0 x1 x2 x3 x4 : Int} (h0 : (((0 : Int) ≤ x0) ∧ (x0 ≤ x1))) (h1 : (x2 = x0)) (h2 : ((x1 ≤ x3) ∧ (x3 ≤ x4))) : (((0 : Int) ≤ x2) ∧ (x2 ≤ x3)) := by omega
theorem q_4654 {x0 x1 x2 x3 x4 x5 x6 x7 x8 x9 : Int} (h0 : ((x0 = x1) ∧ ((x2 = x3) ∧ ((x4 = x5) ∧ ((((3 : Int) ≤ (x6 - x7)) ∧ (x8 = (x9 + (1 : Int)))) ∨ (((x6 - x7) < (3 : Int)) ∧ (x8 = x9))))))) : ((x0 = x1) ∧ (x4 = x5)) := by omega
theorem q_4655 {x0 x1 x2 x3 x4 x5 x6 x7 : Int} (h0 : (((0 : Int) ≤ x0) ∧ ((x0 ≤ x1) ∧ (((0 : Int) ≤ x2) ∧ ((x2 ≤ (255 : Int)) ∧ (((0 : Int) ≤ x3) ∧ ((x3 + x4) ≤ x5))))))) (h1 : ((x1 ≤ x6) ∧ (x6 ≤ x7))) : (((0 : Int) ≤ x0) ∧ (x0 ≤ x6)) := by omega
theorem q_4656 {x0 x1 x2 x3 x4 x5 x6 x7 x8 x9 x10 x11 x12 : Int} (h0 : (x0 = x1)) (h1 : (((0 : Int) ≤ x2) ∧ ((x2 ≤ x3) ∧ (x3 ≤ (65536 : Int))))) (h2 : ((x4 ≠ (0 : Int)) ∨ (x0 = x1))) (h3 : ((x0 = (0 : Int)) ∨ ((x5 ≤ x0) ∧ (x0 ≤ x2)))) (h4 : ((x6 + (3 : Int)) ≤ x1)) (h5 : ((x7 = x8) ∧ ((x9 = x10) ∧ (x11 = (x12 + (1 : Int)))))) : ((x4 ≠ (0 : Int)) ∨ (((3 : Int) ≤ (x2 - x6)) ∧ (x11 = (x12 + (1 : Int))))) := by omega
theorem q_4657 {x0 x1 x2 x3 x4 x5 : Int} (h0 : ((x0 = x1) ∧ ((x2 = x3) ∧ (x4 = (x5 + (1 : Int)))))) : ((x0 = x1) ∧ (x2 = x3)) := by omega
theorem q_4658 {x0 x1 x2 x3 x4 x5 : Int} (h0 : ((0 : Int) < x0)) (h1 : (((0 : Int) ≤ x1) ∧ ((x1 ≤ x2) ∧ (x2 ≤ (65536 : Int))))) (h2 : ((x3 ≠ (0 : Int)) ∨ (x0 = x4))) (h3 : ((x0 = (0 : Int)) ∨ ((x5 ≤ x0) ∧ (x0 ≤ x1)))) : (((0 : Int) ≤ x0) ∧ (x0 ≤ x1)) := by omega
theorem q_4659 {x0 x1 x2 x3 x4 x5 x6 x7 : Int} (h0 : ((x0 = (5 : Int)) ∧ ((x1 = (3 : Int)) ∧ ((x2 = (3 : Int)) ∧ ((x3 = (3 : Int)) ∧ ((x4 = (3 : Int)) ∧ ((x5 = (3 : Int)) ∧ ((x6 = (3 : Int)) ∧ (x7 = (3 : Int)))))))))) : ((x0 = (5 : Int)) ∧ ((x1 = (3 : Int)) ∧ ((x2 = (3 : Int)) ∧ ((x3 = (3 : Int)) ∧ ((x4 = (3 : Int)) ∧ (x5 = (3 : Int))))))) := by omega
theorem q_4660 {x0 x1 x2 : Int} (h0 : (((0 : Int) ≤ x0) ∧ (x0 ≤ (65536 : Int)))) (h1 : ((x1 ≤ x2) ∧ (x2 ≤ x0))) : (((0 : Int) ≤ x0) ∧ ((x0 ≤ (65536 : Int)) ∧ (x2 ≤ x0))) := by omega
theorem q_4661 {x0 x1 x2 x3 x4 x5 x6 : Int} (h0 : (((0 : Int) ≤ x0) ∧ ((x0 ≤ x1) ∧ (x1 ≤ (65536 : Int))))) (h1 : ((x2 = (0 : Int)) ∨ ((x3 ≤ x2) ∧ (x2 ≤ x0)))) (h2 : ((x4 ≠ (0 : Int)) ∨ (x5 = x0))) (h3 : (((0 : Int) ≤ x6) ∧ (x6 ≤ x2))) : ((x6 ≤ x2) ∧ (x2 ≤ x0)) := by omega
theorem q_4662 {x0 x1 x2 x3 x4 x5 x6 x7 : Int} (h0 : (((0 : Int) ≤ x0) ∧ ((x0 ≤ x1) ∧ (x1 ≤ (65536 : Int))))) (h1 : ((x2 = (0 : Int)) ∨ ((x3 ≤ x2) ∧ (x2 ≤ x0)))) (h2 : ((x4 ≠ (0 : Int)) ∨ (x5 = x0))) (h3 : (((0 : Int) ≤ x6) ∧ (x6 ≤ x2))) (h4 : (((0 : Int) ≤ x3) ∧ ((x7 ≤ x3) ∧ (x3 ≤ x0)))) : (((0 : Int) ≤ x6) ∧ ((x6 ≤ x0) ∧ ((x0 ≤ x1) ∧ (x1 ≤ (65536 : Int))))) := by omega
theorem q_4663 {x0 x1 x2 : Int} (h0 : (((-(2147483648 : Int)) ≤ x0) ∧ (x0 ≤ (2147483647 : Int)))) (h1 : (((0 : Int) ≤ x0) ∧ ((x1 ≤ x0) ∧ (x0 ≤ x2)))) : (inr x0) := by omega
theorem q_4664 {x0 x1 x2 x3 x4 x5 x6 x7 x8 x9 x10 x11 x12 x13 x14 x15 : Int} (h0 : ((0 : Int) < x0)) (h1 : (x0 = x1)) (h2 : ((x0 = (0 : Int)) ∨ ((x2 ≤ x0) ∧ (x0 ≤ x3)))) (h3 : ((x4 = x5) ∧ ((x6 = x7) ∧ ((x8 = x9) ∧ ((((3 : Int) ≤ (x3 - x10)) ∧ (x11 = (x12 + (1 : Int)))) ∨ (((x3 - x10) < (3 : Int)) ∧ (x11 = x12))))))) (h4 : ((x10 + (3 : Int)) ≤ x1)) (h5 : (x13 = x4)) (h6 : (x14 = x11)) (h7 : (x15 = x8)) : ((x13 = x5) ∧ ((x15 = x9) ∧ (x14 = (x12 + (1 : Int))))) := by omega
theorem q_4665 {x0 x1 x2 x3 x4 x5 x6 x7 x8 : Int} (h0 : (((0 : Int) ≤ x0) ∧ ((x0 ≤ x1) ∧ (((0 : Int) ≤ x2) ∧ ((x2 ≤ (255 : Int)) ∧ (((0 : Int) ≤ x3) ∧ ((x3 + x4) ≤ x5))))))) (h1 : ((x1 ≤ x6) ∧ (x6 ≤ x7))) (h2 : (x6 ≤ x8)) : (((0 : Int) ≤ x0) ∧ (x0 ≤ x8)) := by omega
theorem q_4666 {x0 x1 x2 x3 x4 x5 x6 x7 x8 x9 x10 x11 x12 : Int} (h0 : ((0 : Int) < x0)) (h1 : (x0 = x1)) (h2 : ((x0 = (0 : Int)) ∨ ((x2 ≤ x0) ∧ (x0 ≤ x3)))) (h3 : ((x4 = x5) ∧ ((x6 = x7) ∧ ((x8 = x9) ∧ ((((3 : Int) ≤ (x3 - x10)) ∧ (x11 = (x12 + (1 : Int)))) ∨ (((x3 - x10) < (3 : Int)) ∧ (x11 = x12))))))) (h4 : ((x10 + (3 : Int)) ≤ x1)) : ((x4 = x5) ∧ ((x8 = x9) ∧ (x11 = (x12 + (1 : Int))))) := by omega
theorem q_4667 {x0 x1 x2 x3 x4 x5 : Int} (h0 : (((-(2147483648 : Int)) ≤ x0) ∧ (x0 ≤ (2147483647 : Int)))) (h1 : ((0 : Int) < x1)) (h2 : (((0 : Int) ≤ x2) ∧ ((x2 ≤ x3) ∧ (x3 ≤ (65536 : Int))))) (h3 : ((x1 = (0 : Int)) ∨ ((x0 ≤ x1) ∧ (x1 ≤ x2)))) (h4 : ((x4 ≠ (0 : Int)) ∨ ((x1 ≤ x0) ∨ ((x5 % (4 : Int)) < (2 : Int))))) : ((x0 ≤ x1) ∧ (x1 ≤ x2)) := by omega
theorem q_4668 {x0 x1 x2 x3 : Int} (h0 : (((0 : Int) ≤ x0) ∧ ((x0 ≤ x1) ∧ (x1 ≤ (65536 : Int))))) (h1 : (((0 : Int) ≤ x2) ∧ ((x3 ≤ x2) ∧ (x2 ≤ x0)))) : (((0 : Int) ≤ x2) ∧ ((x2 ≤ x0) ∧ ((x0 ≤ x1) ∧ (x1 ≤ (65536 : Int))))) := by omega
theorem q_4669 {x0 x1 x2 x3 : Int} (h0 : (((0 : Int) ≤ x0) ∧ ((x1 ≤ x0) ∧ (x0 ≤ x2)))) (h1 : (x0 ≤ x3)) : (((0 : Int) ≤ x0) ∧ (x0 ≤ x3)) := by omega
theorem q_4670 {x0 : Int} (h0 : (((-(2147483648 : Int)) ≤ x0) ∧ (x0 ≤ (2147483647 : Int)))) (h1 : ((0 : Int) < x0)) : (inr x0) := by omega
theorem q_4671 {x0 x1 x2 : Int} (h0 : (x0 ≤ x1)) : (((0 : Int) ≠ (0 : Int)) ∨ ((x0 ≤ x1) ∨ ((x2 % (4 : Int)) < (2 : Int)))) := by omega
theorem q_4672 {x0 x1 x2 : Int} : (((0 : Int) = (0 : Int)) ∨ ((x0 < x1) ∧ (x2 ≠ (0 : Int)))) := by omega
theorem q_4673 {x0 x1 x2 x3 x4 : Int} (h0 : (((0 : Int) ≤ x0) ∧ (x0 ≤ (1000000 : Int)))) (h1 : (x1 < x2)) (h2 : (((0 : Int) ≤ x3) ∧ ((x3 ≤ x0) ∧ (x0 ≤ (65536 : Int))))) (h3 : ((x2 = (0 : Int)) ∨ ((x1 ≤ x2) ∧ (x2 ≤ x3)))) (h4 : (((0 : Int) ≤ x1) ∧ ((x4 ≤ x1) ∧ (x1 ≤ x3)))) : (((0 : Int) ≤ x1) ∧ (x1 < x0)) := by omega
theorem q_4674 {x0 x1 x2 : Int} : (((1 : Int) ≠ (0 : Int)) ∨ ((x0 ≤ x1) ∨ ((x2 % (4 : Int)) < (2 : Int)))) := by omega
theorem q_4675 {x0 x1 x2 : Int} (h0 : ((3 : Int) ≤ (x0 - x1))) (h1 : (((0 : Int) ≤ x0) ∧ ((x0 ≤ x2) ∧ (x2 ≤ (65536 : Int))))) (h2 : (((0 : Int) ≤ x1) ∧ (x1 ≤ x0))) : (((0 : Int) ≤ x1) ∧ (x1 < x2)) := by omega
theorem q_4676 {x0 x1 x2 x3 x4 x5 x6 x7 : Int} (h0 : (((0 : Int) ≤ x0) ∧ (x0 ≤ (1000000 : Int)))) (h1 : ((x0 = (5 : Int)) ∧ ((x1 = (3 : Int)) ∧ ((x2 = (3 : Int)) ∧ ((x3 = (3 : Int)) ∧ ((x4 = (3 : Int)) ∧ ((x5 = (3 : Int)) ∧ ((x6 = (3 : Int)) ∧ (x7 = (3 : Int)))))))))) : (((0 : Int) ≤ (0 : Int)) ∧ ((0 : Int) < x0)) := by omega
theorem q_4677 {x0 x1 x2 x3 x4 x5 x6 x7 : Int} (h0 : ((x0 = (5 : Int)) ∧ ((x1 = (3 : Int)) ∧ ((x2 = (3 : Int)) ∧ ((x3 = (3 : Int)) ∧ ((x4 = (3 : Int)) ∧ ((x5 = (3 : Int)) ∧ ((x6 = (3 : Int)) ∧ (x7 = (3 : Int)))))))))) : ((x3 = (3 : Int)) ∧ ((x1 = (3 : Int)) ∧ ((x6 = (3 : Int)) ∧ (x7 = (3 : Int))))) := by omega
theorem q_4678 {x0 x1 x2 : Int} (h0 : (((0 : Int) ≤ x0) ∧ (x0 ≤ x1))) (h1 : (x2 = x0)) : (((0 : Int) ≤ x2) ∧ (x2 ≤ x1)) := by omega
theorem q_4679 {x0 x1 x2 : Int} (h0 : (x0 ≠ (0 : Int))) : ((x0 ≠ (0 : Int)) ∨ ((x0 = (0 : Int)) ∧ (x1 < x2))) := by omega
theorem q_4680 {x0 x1 x2 : Int} (h0 : (x0 = (0 : Int))) (h1 : (x1 < x2)) : ((x0 ≠ (0 : Int)) ∨ ((x0 = (0 : Int)) ∧ (x1 < x2))) := by omega
theorem q_4681 {x0 x1 x2 x3 x4 x5 : Int} (h0 : (((0 : Int) ≤ x0) ∧ (x0 ≤ (1000000 : Int)))) (h1 : ((x1 = (3 : Int)) ∧ ((x2 = (3 : Int)) ∧ ((x3 = (3 : Int)) ∧ ((x4 = (3 : Int)) ∧ ((x0 = (3 : Int)) ∧ (x5 = (3 : Int)))))))) : (((0 : Int) ≤ (0 : Int)) ∧ ((0 : Int) < x0)) := by omega
theorem q_4682 {x0 x1 x2 x3 x4 x5 : Int} (h0 : (((0 : Int) ≤ x0) ∧ (x0 ≤ (1000000 : Int)))) (h1 : ((x0 = (3 : Int)) ∧ ((x1 = (3 : Int)) ∧ ((x2 = (3 : Int)) ∧ ((x3 = (3 : Int)) ∧ ((x4 = (3 : Int)) ∧ (x5 = (3 : Int)))))))) : (((0 : Int) ≤ (1 : Int)) ∧ ((1 : Int) < x0)) := by omega
theorem q_4683 {x0 x1 x2 x3 x4 x5 : Int} (h0 : (((0 : Int) ≤ x0) ∧ (x0 ≤ (1000000 : Int)))) (h1 : ((x1 = (3 : Int)) ∧ ((x2 = (3 : Int)) ∧ ((x3 = (3 : Int)) ∧ ((x0 = (3 : Int)) ∧ ((x4 = (3 : Int)) ∧ (x5 = (3 : Int)))))))) : (((0 : Int) ≤ (1 : Int)) ∧ ((1 : Int) < x0)) := by omega
theorem q_4684 {x0 x1 x2 x3 x4 x5 : Int} (h0 : (((0 : Int) ≤ x0) ∧ (x0 ≤ (1000000 : Int)))) (h1 : ((x1 = (3 : Int)) ∧ ((x2 = (3 : Int)) ∧ ((x3 = (3 : Int)) ∧ ((x4 = (3 : Int)) ∧ ((x5 = (3 : Int)) ∧ (x0 = (3 : Int)))))))) : (((0 : Int) ≤ (1 : Int)) ∧ ((1 : Int) < x0)) := by omega
theorem q_4685 {x0 x1 x2 x3 x4 x5 x6 x7 x8 x9 : Int} (h0 : (x0 ≤ (256 : Int))) (h1 : ((x1 = x2) ∧ ((x3 = x2) ∧ ((x4 = x2) ∧ ((x5 = x2) ∧ ((x6 = x2) ∧ ((x7 = x8) ∧ ((x9 = x8) ∧ (x8 = (256 : Int)))))))))) : ((x1 = x2) ∧ ((x3 = x2) ∧ ((x4 = x2) ∧ ((x5 = x2) ∧ ((x6 = x2) ∧ ((x7 = x8) ∧ ((x9 = x8) ∧ (x0 ≤ x8)))))))) := by omega
theorem q_4686 {x0 x1 x2 x3 x4 x5 x6 x7 x8 : Int} (h0 : (x0 = (32 : Int))) (h1 : ((x1 = x0) ∧ ((x2 = x0) ∧ ((x3 = x0) ∧ ((x4 = x0) ∧ ((x5 = x0) ∧ ((x6 = x7) ∧ ((x8 = x7) ∧ (x7 = (256 : Int)))))))))) : ((x1 = x0) ∧ ((x2 = x0) ∧ ((x3 = x0) ∧ ((x4 = x0) ∧ ((x5 = x0) ∧ ((x6 = x7) ∧ ((x8 = x7) ∧ (((1 : Int) ≤ x0) ∧ (x0 ≤ (64 : Int)))))))))) := by omega
theorem q_4687 {x0 x1 x2 x3 x4 x5 x6 x7 x8 : Int} (h0 : ((x0 = x1) ∧ ((x2 = x1) ∧ ((x3 = x1) ∧ ((x4 = x1) ∧ ((x5 = x1) ∧ ((x6 = x7) ∧ ((x8 = x7) ∧ (x7 = (256 : Int)))))))))) : (x7 ≥ (1 : Int)) := by omega
theorem q_4688 {x0 x1 x2 x3 x4 x5 : Int} (h0 : (((0 : Int) ≤ x0) ∧ (x0 ≤ (1000000 : Int)))) (h1 : ((x1 = (3 : Int)) ∧ ((x0 = (3 : Int)) ∧ ((x2 = (3 : Int)) ∧ ((x3 = (3 : Int)) ∧ ((x4 = (3 : Int)) ∧ (x5 = (3 : Int)))))))) : (((0 : Int) ≤ (1 : Int)) ∧ ((1 : Int) < x0)) := by omega
theorem q_4689 {x0 x1 x2 x3 x4 x5 : Int} (h0 : (((0 : Int) ≤ x0) ∧ ((x0 ≤ (3 : Int)) ∧ (((x0 = (1 : Int)) ∧ (x1 = (1 : Int))) ∨ (((x0 = (2 : Int)) ∧ (((5 : Int) ≤ x2) ∧ ((x2 ≤ (8 : Int)) ∧ (x1 ≤ x3)))) ∨ ((x0 ≠ (1 : Int)) ∧ ((x0 ≠ (2 : Int)) ∧ (x4 ≠ x5)))))))) : (((x0 = (1 : Int)) ∧ (x1 = (1 : Int))) ∨ (((x0 = (2 : Int)) ∧ (((5 : Int) ≤ x2) ∧ ((x2 ≤ (8 : Int)) ∧ (x1 ≤ x3)))) ∨ ((x0 ≠ (1 : Int)) ∧ ((x0 ≠ (2 : Int)) ∧ (x4 ≠ x5))))) := by omega
theorem q_4690 {x0 x1 x2 x3 x4 x5 : Int} (h0 : (((0 : Int) ≤ x0) ∧ ((x0 ≤ (3 : Int)) ∧ (((x0 = (1 : Int)) ∧ (x1 = (1 : Int))) ∨ (((x0 = (2 : Int)) ∧ (((5 : Int) ≤ x2) ∧ ((x2 ≤ (8 : Int)) ∧ (x1 ≤ x3)))) ∨ ((x0 ≠ (1 : Int)) ∧ ((x0 ≠ (2 : Int)) ∧ (x4 ≠ x5)))))))) : (((0 : Int) ≤ x0) ∧ (x0 ≤ (3 : Int))) := by omega
theorem q_4691 {x0 x1 x2 x3 x4 x5 : Int} (h0 : (((0 : Int) ≤ x0) ∧ (x0 ≤ (1000000 : Int)))) (h1 : ((x1 = (3 : Int)) ∧ ((x2 = (3 : Int)) ∧ ((x0 = (3 : Int)) ∧ ((x3 = (3 : Int)) ∧ ((x4 = (3 : Int)) ∧ (x5 = (3 : Int)))))))) : (((0 : Int) ≤ (1 : Int)) ∧ ((1 : Int) < x0)) := by omega
theorem q_4692 {x0 x1 x2 x3 x4 x5 : Int} (h0 : (((0 : Int) ≤ x0) ∧ (x0 ≤ (1000000 : Int)))) (h1 : ((x1 = (3 : Int)) ∧ ((x2 = (3 : Int)) ∧ ((x3 = (3 : Int)) ∧ ((x4 = (3 : Int)) ∧ ((x0 = (3 : Int)) ∧ (x5 = (3 : Int)))))))) : (((0 : Int) ≤ (1 : Int)) ∧ ((1 : Int) < x0)) := by omega
theorem q_4693 {x0 x1 x2 x3 x4 x5 : Int} (h0 : ((x0 = (3 : Int)) ∧ ((x1 = (3 : Int)) ∧ ((x2 = (3 : Int)) ∧ ((x3 = (3 : Int)) ∧ ((x4 = (3 : Int)) ∧ (x5 = (3 : Int)))))))) : (((0 : Int) ≤ (2 : Int)) ∧ ((2 : Int) < x0)) := by omega
theorem q_4694 {x0 x1 x2 x3 x4 x5 : Int} (h0 : ((x0 = (3 : Int)) ∧ ((x1 = (3 : Int)) ∧ ((x2 = (3 : Int)) ∧ ((x3 = (3 : Int)) ∧ ((x4 = (3 : Int)) ∧ (x5 = (3 : Int)))))))) : (((0 : Int) ≤ (2 : Int)) ∧ ((2 : Int) < x3)) := by omega
theorem q_4695 {x0 x1 x2 x3 x4 x5 : Int} (h0 : ((x0 = (3 : Int)) ∧ ((x1 = (3 : Int)) ∧ ((x2 = (3 : Int)) ∧ ((x3 = (3 : Int)) ∧ ((x4 = (3 : Int)) ∧ (x5 = (3 : Int)))))))) : (((0 : Int) ≤ (2 : Int)) ∧ ((2 : Int) < x5)) := by omega
theorem q_4696 {x0 x1 x2 x3 x4 x5 x6 x7 x8 : Int} (h0 : (x0 = (53 : Int))) (h1 : ((x1 = x0) ∧ ((x2 = x0) ∧ ((x3 = x0) ∧ ((x4 = x0) ∧ ((x5 = x0) ∧ ((x6 = x7) ∧ ((x8 = x7) ∧ (x7 = (512 : Int)))))))))) : ((x1 = x0) ∧ ((x2 = x0) ∧ ((x3 = x0) ∧ ((x4 = x0) ∧ ((x5 = x0) ∧ ((x6 = x7) ∧ ((x8 = x7) ∧ (((1 : Int) ≤ x0) ∧ (x0 ≤ (64 : Int)))))))))) := by omega
theorem q_4697 {x0 x1 x2 x3 x4 x5 : Int} (h0 : ((x0 = (3 : Int)) ∧ ((x1 = (3 : Int)) ∧ ((x2 = (3 : Int)) ∧ ((x3 = (3 : Int)) ∧ ((x4 = (3 : Int)) ∧ (x5 = (3 : Int)))))))) : (((0 : Int) ≤ (2 : Int)) ∧ ((2 : Int) < x1)) := by omega
theorem q_4698 {x0 x1 x2 x3 x4 x5 : Int} (h0 : ((x0 = (3 : Int)) ∧ ((x1 = (3 : Int)) ∧ ((x2 = (3 : Int)) ∧ ((x3 = (3 : Int)) ∧ ((x4 = (3 : Int)) ∧ (x5 = (3 : Int)))))))) : (((0 : Int) ≤ (2 : Int)) ∧ ((2 : Int) < x2)) := by omega
theorem q_4699 {x0 x1 x2 x3 x4 x5 : Int} (h0 : ((x0 = (3 : Int)) ∧ ((x1 = (3 : Int)) ∧ ((x2 = (3 : Int)) ∧ ((x3 = (3 : Int)) ∧ ((x4 = (3 : Int)) ∧ (x5 = (3 : Int)))))))) : (((0 : Int) ≤ (2 : Int)) ∧ ((2 : Int) < x4)) := by omega
theorem q_4700 {x0 x1 : Int} (h0 : ((x0 = (256 : Int)) ∧ (x1 = (256 : Int)))) : (x1 = (256 : Int)) := by omega
theorem q_4701 {x0 x1 : Int} (h0 : ((x0 = (256 : Int)) ∧ (x1 = (256 : Int)))) : (x0 = (256 : Int)) := by omega
theorem q_4702 {x0 x1 x2 x3 : Int} (h0 : (((0 : Int) ≤ x0) ∧ (x0 ≤ x1))) (h1 : ((((x2 + ((9 : Int) * x0)) + (16 : Int)) ≤ (65536 : Int)) ∧ ((x0 ≤ (5461 : Int)) ∧ ((x0 = (0 : Int)) ∨ (x3 < x2))))) : (inr (x0 - (1 : Int))) := by omega
theorem q_4703 {x0 x1 x2 x3 x4 x5 x6 x7 x8 x9 : Int} (h0 : (((0 : Int) ≤ x0) ∧ (x0 ≤ (1000000 : Int)))) (h1 : (((0 : Int) ≤ x1) ∧ (x1 ≤ x2))) (h2 : ((x3 = (3 : Int)) ∧ ((x4 = x2) ∧ ((x5 = x2) ∧ ((x0 = x2) ∧ ((x6 = (0 : Int)) ∧ (x2 ≤ (16384 : Int)))))))) (h3 : ((((x7 + ((9 : Int) * x1)) + (16 : Int)) ≤ (65536 : Int)) ∧ ((x1 ≤ (5461 : Int)) ∧ ((x1 = (0 : Int)) ∨ (x8 < x7))))) (h4 : (((-(1 : Int)) ≤ x9) ∧ (x9 ≤ (x1 - (2 : Int))))) : (x9 < x0) := by omega
theorem q_4704 {x0 x1 x2 x3 x4 x5 x6 x7 x8 x9 : Int} (h0 : (((0 : Int) ≤ x0) ∧ (x0 ≤ (1000000 : Int)))) (h1 : (((0 : Int) ≤ x1) ∧ (x1 ≤ x2))) (h2 : ((x3 = (3 : Int)) ∧ ((x4 = x2) ∧ ((x0 = x2) ∧ ((x5 = x2) ∧ ((x6 = (0 : Int)) ∧ (x2 ≤ (16384 : Int)))))))) (h3 : ((((x7 + ((9 : Int) * x1)) + (16 : Int)) ≤ (65536 : Int)) ∧ ((x1 ≤ (5461 : Int)) ∧ ((x1 = (0 : Int)) ∨ (x8 < x7))))) (h4 : (((-(1 : Int)) ≤ x9) ∧ (x9 ≤ (x1 - (2 : Int))))) : (x9 < x0) := by omega
theorem q_4705 {x0 x1 x2 x3 x4 x5 x6 x7 x8 x9 : Int} (h0 : (((0 : Int) ≤ x0) ∧ (x0 ≤ (1000000 : Int)))) (h1 : (((0 : Int) ≤ x1) ∧ (x1 ≤ x2))) (h2 : ((x3 = (3 : Int)) ∧ ((x0 = x2) ∧ ((x4 = x2) ∧ ((x5 = x2) ∧ ((x6 = (0 : Int)) ∧ (x2 ≤ (16384 : Int)))))))) (h3 : ((((x7 + ((9 : Int) * x1)) + (16 : Int)) ≤ (65536 : Int)) ∧ ((x1 ≤ (5461 : Int)) ∧ ((x1 = (0 : Int)) ∨ (x8 < x7))))) (h4 : (((-(1 : Int)) ≤ x9) ∧ (x9 ≤ (x1 - (2 : Int))))) : (x9 < x0) := by omega
theorem q_4706 {x0 x1 x2 x3 x4 x5 x6 x7 x8 : Int} (h0 : (((0 : Int) ≤ x0) ∧ (x0 ≤ (1000000 : Int)))) (h1 : ((0 : Int) ≤ x1)) (h2 : (((0 : Int) ≤ x2) ∧ (x2 ≤ x3))) (h3 : ((((x4 + ((9 : Int) * x2)) + (16 : Int)) ≤ (65536 : Int)) ∧ ((x2 ≤ (5461 : Int)) ∧ ((x2 = (0 : Int)) ∨ (x5 < x4))))) (h4 : ((x0 = x6) ∧ ((x7 = x6) ∧ ((x6 ≤ (65536 : Int)) ∧ (((x6 = (0 : Int)) ∨ ((64 : Int) ≤ x6)) ∧ (x8 = (0 : Int))))))) (h5 : (x2 ≤ x6)) (h6 : (((-(1 : Int)) ≤ x1) ∧ (x1 ≤ (x2 - (2 : Int))))) : (((0 : Int) ≤ x1) ∧ ((x1 < x3) ∧ ((x1 < x0) ∧ (x1 < x6)))) := by omega
theorem q_4707 {x0 x1 x2 x3 x4 x5 x6 x7 x8 x9 : Int} (h0 : (((0 : Int) ≤ x0) ∧ (x0 ≤ (1000000 : Int)))) (h1 : ((0 : Int) ≤ x1)) (h2 : (((0 : Int) ≤ x2) ∧ (x2 ≤ x3))) (h3 : ((x4 = (3 : Int)) ∧ ((x0 = x3) ∧ ((x5 = x3) ∧ ((x6 = x3) ∧ ((x7 = (0 : Int)) ∧ (x3 ≤ (16384 : Int)))))))) (h4 : ((((x8 + ((9 : Int) * x2)) + (16 : Int)) ≤ (65536 : Int)) ∧ ((x2 ≤ (5461 : Int)) ∧ ((x2 = (0 : Int)) ∨ (x9 < x8))))) (h5 : (((-(1 : Int)) ≤ x1) ∧ (x1 ≤ (x2 - (2 : Int))))) : (((0 : Int) ≤ x1) ∧ (x1 < x0)) := by omega
theorem q_4708 {x0 x1 x2 x3 x4 x5 x6 x7 x8 x9 : Int} (h0 : (((0 : Int) ≤ x0) ∧ (x0 ≤ (1000000 : Int)))) (h1 : ((0 : Int) ≤ x1)) (h2 : (((0 : Int) ≤ x2) ∧ (x2 ≤ x3))) (h3 : ((x4 = (3 : Int)) ∧ ((x5 = x3) ∧ ((x6 = x3) ∧ ((x0 = x3) ∧ ((x7 = (0 : Int)) ∧ (x3 ≤ (16384 : Int)))))))) (h4 : ((((x8 + ((9 : Int) * x2)) + (16 : Int)) ≤ (65536 : Int)) ∧ ((x2 ≤ (5461 : Int)) ∧ ((x2 = (0 : Int)) ∨ (x9 < x8))))) (h5 : (((-(1 : Int)) ≤ x1) ∧ (x1 ≤ (x2 - (2 : Int))))) : (((0 : Int) ≤ x1) ∧ (x1 < x0)) := by omega
theorem q_4709 {x0 x1 x2 x3 x4 x5 x6 x7 x8 x9 : Int} (h0 : (((0 : Int) ≤ x0) ∧ (x0 ≤ (1000000 : Int)))) (h1 : ((0 : Int) ≤ x1)) (h2 : (((0 : Int) ≤ x2) ∧ (x2 ≤ x3))) (h3 : ((x4 = (3 : Int)) ∧ ((x5 = x3) ∧ ((x0 = x3) ∧ ((x6 = x3) ∧ ((x7 = (0 : Int)) ∧ (x3 ≤ (16384 : Int)))))))) (h4 : ((((x8 + ((9 : Int) * x2)) + (16 : Int)) ≤ (65536 : Int)) ∧ ((x2 ≤ (5461 : Int)) ∧ ((x2 = (0 : Int)) ∨ (x9 < x8))))) (h5 : (((-(1 : Int)) ≤ x1) ∧ (x1 ≤ (x2 - (2 : Int))))) : (((0 : Int) ≤ x1) ∧ (x1 < x0)) := by omega
theorem q_4710 {x0 : Int} : ((((0 : Int) = (1 : Int)) ∧ (((0 : Int) ≤ x0) ∧ (x0 ≤ (3 : Int)))) ∨ ((0 : Int) = (0 : Int))) := by omega
theorem q_4711 {x0 : Int} (h0 : ((0 : Int) ≤ x0)) (h1 : (x0 ≤ (3 : Int))) : ((((1 : Int) = (1 : Int)) ∧ (((0 : Int) ≤ x0) ∧ (x0 ≤ (3 : Int)))) ∨ ((1 : Int) = (0 : Int))) := by omega
theorem q_4724 {x0 x1 : Int} (h0 : (((0 : Int) ≤ x0) ∧ (x0 ≤ (1000000 : Int)))) (h1 : (x1 = (0 : Int))) (h2 : (x0 = (4 : Int))) : (((0 : Int) ≤ x1) ∧ (x1 < x0)) := by omega
theorem q_4725 : (inrJ (4294967295 : Int)) := by omega
theorem q_4726 {x0 x1 : Int} (h0 : (((0 : Int) ≤ x0) ∧ (x0 ≤ (1000000 : Int)))) (h1 : (x1 = (1 : Int))) (h2 : (x0 = (4 : Int))) : (((0 : Int) ≤ x1) ∧ (x1 < x0)) := by omega
theorem q_4727 {x0 x1 : Int} (h0 : (((0 : Int) ≤ x0) ∧ (x0 ≤ (1000000 : Int)))) (h1 : (x1 = (2 : Int))) (h2 : (x0 = (4 : Int))) : (((0 : Int) ≤ x1) ∧ (x1 < x0)) := by omega
theorem q_4728 {x0 x1 : Int} (h0 : (x0 = (3 : Int))) (h1 : (x1 = (4 : Int))) : (((0 : Int) ≤ x0) ∧ (x0 < x1)) := by omega
theorem q_4729 {x0 x1 : Int} (h0 : (((0 : Int) ≤ x0) ∧ ((x0 ≤ x1) ∧ (x1 ≤ (65536 : Int))))) : (inrJ ((65536 : Int) - x0)) := by omega
theorem q_4730 {x0 x1 x2 : Int} (h0 : ((1 : Int) ≤ x0)) (h1 : (x0 ≤ x1)) : ((x2 < (0 : Int)) ∨ (((1 : Int) ≤ x0) ∧ (x0 ≤ (x1 - (0 : Int))))) := by omega
theorem q_4731 {x0 x1 x2 : Int} (h0 : ((0 : Int) ≤ x0)) (h1 : (x0 ≤ x1)) (h2 : (((0 : Int) ≤ x1) ∧ ((x1 ≤ x2) ∧ (x2 ≤ (65536 : Int))))) : (((0 : Int) ≤ x0) ∧ ((x0 ≤ x2) ∧ (x2 ≤ (65536 : Int)))) := by omega
theorem q_4732 {x0 x1 x2 : Int} (h0 : ((0 : Int) ≤ x0)) (h1 : (x0 < x1)) (h2 : (((0 : Int) ≤ x1) ∧ ((x1 ≤ x2) ∧ (x2 ≤ (65536 : Int))))) : (((0 : Int) ≤ x0) ∧ (x0 < x2)) := by omega
theorem q_4733 {x0 x1 x2 : Int} (h0 : ((0 : Int) ≤ x0)) (h1 : (x0 ≤ x1)) (h2 : (x1 ≤ x2)) : ((((1 : Int) = (1 : Int)) ∧ (((0 : Int) ≤ x0) ∧ ((x0 ≤ x1) ∧ (x1 ≤ x2)))) ∨ (((1 : Int) = (0 : Int)) ∧ (¬ (((0 : Int) ≤ x0) ∧ ((x0 ≤ x1) ∧ (x1 ≤ x2)))))) := by omega
theorem q_4736 {x0 x1 : Int} (h0 : (x0 ≠ (0 : Int))) : (((x0 = (0 : Int)) ∧ (x1 = (0 : Int))) ∨ ((x0 ≠ (0 : Int)) ∧ (x1 = x1))) := by omega
theorem q_4740 {x0 : Int} (h0 : (x0 < (13 : Int))) : ((x0 < (13 : Int)) ∨ ((x0 ≥ (13 : Int)) ∧ (x0 > (17 : Int)))) := by omega
theorem q_4741 {x0 : Int} (h0 : ((17 : Int) < x0)) : ((x0 < (13 : Int)) ∨ ((x0 ≥ (13 : Int)) ∧ (x0 > (17 : Int)))) := by omega
theorem q_4742 {x0 x1 : Int} (h0 : ((13 : Int) ≤ x0)) (h1 : (x0 ≤ (17 : Int))) (h2 : (x1 = (5 : Int))) : (((0 : Int) ≤ (x0 - (13 : Int))) ∧ ((x0 - (13 : Int)) < x1)) := by omega
theorem q_4743 {x0 : Int} (h0 : (x0 < (1 : Int))) : ((x0 < (1 : Int)) ∨ ((x0 ≥ (1 : Int)) ∧ (x0 > (12 : Int)))) := by omega
theorem q_4744 {x0 : Int} (h0 : ((12 : Int) < x0)) : ((x0 < (1 : Int)) ∨ ((x0 ≥ (1 : Int)) ∧ (x0 > (12 : Int)))) := by omega
theorem q_4745 {x0 x1 : Int} (h0 : ((1 : Int) ≤ x0)) (h1 : (x0 ≤ (12 : Int))) (h2 : (x1 = (13 : Int))) : (((0 : Int) ≤ x0) ∧ (x0 < x1)) := by omega
theorem q_4746 {x0 x1 x2 : Int} (h0 : (x0 = (0 : Int))) : ((((0 : Int) ≤ x0) ∧ ((x0 ≤ (1 : Int)) ∧ (x1 = x1))) ∨ (((x0 = (4 : Int)) ∧ (x1 = x2)) ∨ (((x0 < (0 : Int)) ∨ ((x0 = (2 : Int)) ∨ ((x0 = (3 : Int)) ∨ ((5 : Int) ≤ x0)))) ∧ (x1 = (0 : Int))))) := by omega
theorem q_4747 {x0 x1 x2 : Int} (h0 : (x0 = (4 : Int))) : ((((0 : Int) ≤ x0) ∧ ((x0 ≤ (1 : Int)) ∧ (x1 = x2))) ∨ (((x0 = (4 : Int)) ∧ (x1 = x1)) ∨ (((x0 < (0 : Int)) ∨ ((x0 = (2 : Int)) ∨ ((x0 = (3 : Int)) ∨ ((5 : Int) ≤ x0)))) ∧ (x1 = (0 : Int))))) := by omega
theorem q_4748 {x0 x1 x2 : Int} (h0 : (x0 = (1 : Int))) : ((((0 : Int) ≤ x0) ∧ ((x0 ≤ (1 : Int)) ∧ (x1 = x1))) ∨ (((x0 = (4 : Int)) ∧ (x1 = x2)) ∨ (((x0 < (0 : Int)) ∨ ((x0 = (2 : Int)) ∨ ((x0 = (3 : Int)) ∨ ((5 : Int) ≤ x0)))) ∧ (x1 = (0 : Int))))) := by omega
theorem q_4749 {x0 x1 : Int} (h0 : (((0 : Int) ≤ x0) ∧ (x0 ≤ (1000000 : Int)))) (h1 : (x1 = (0 : Int))) (h2 : (x0 = (4 : Int))) (h3 : (((0 : Int) ≤ x1) ∧ (x1 ≤ (3 : Int)))) : (((0 : Int) ≤ x1) ∧ (x1 < x0)) := by omega
theorem q_4750 {x0 x1 : Int} (h0 : (((0 : Int) ≤ x0) ∧ (x0 ≤ (1000000 : Int)))) (h1 : (x1 = (1 : Int))) (h2 : (x0 = (4 : Int))) (h3 : (((0 : Int) ≤ x1) ∧ (x1 ≤ (3 : Int)))) : (((0 : Int) ≤ x1) ∧ (x1 < x0)) := by omega
theorem q_4751 {x0 x1 : Int} (h0 : (((0 : Int) ≤ x0) ∧ (x0 ≤ (1000000 : Int)))) (h1 : (x1 = (2 : Int))) (h2 : (x0 = (4 : Int))) (h3 : (((0 : Int) ≤ x1) ∧ (x1 ≤ (3 : Int)))) : (((0 : Int) ≤ x1) ∧ (x1 < x0)) := by omega
theorem q_4752 {x0 x1 : Int} (h0 : (x0 = (3 : Int))) (h1 : (x1 = (4 : Int))) (h2 : (((0 : Int) ≤ x0) ∧ (x0 ≤ (3 : Int)))) : (((0 : Int) ≤ x0) ∧ (x0 < x1)) := by omega
theorem q_4753 {x0 x1 x2 x3 x4 x5 : Int} (h0 : (((0 : Int) ≤ x0) ∧ ((x0 ≤ x1) ∧ (x1 ≤ (65536 : Int))))) (h1 : (((0 : Int) ≤ x2) ∧ (x2 ≤ (65536 : Int)))) (h2 : (((0 : Int) ≤ x3) ∧ (x3 ≤ (65536 : Int)))) (h3 : (inr x4)) (h4 : ((((0 : Int) ≤ x5) ∧ ((x5 ≤ (1 : Int)) ∧ (x4 = x2))) ∨ (((x5 = (4 : Int)) ∧ (x4 = x3)) ∨ (((x5 < (0 : Int)) ∨ ((x5 = (2 : Int)) ∨ ((x5 = (3 : Int)) ∨ ((5 : Int) ≤ x5)))) ∧ (x4 = (0 : Int)))))) : (inr (x0 + x4)) := by omega
theorem q_4754 {x0 x1 x2 x3 : Int} (h0 : (x0 = (0 : Int))) : (((3 : Int) ≠ x0) ∨ ((x1 ≠ (4 : Int)) ∨ ((x2 + x3) ≤ (16384 : Int)))) := by omega
theorem q_4755 {x0 x1 x2 x3 : Int} (h0 : (x0 = (0 : Int))) : (((2 : Int) ≠ x0) ∨ ((x1 ≠ (4 : Int)) ∨ ((x2 + x3) ≤ (16384 : Int)))) := by omega
theorem q_4756 {x0 x1 x2 x3 : Int} (h0 : (x0 = (0 : Int))) : (((1 : Int) ≠ x0) ∨ ((x1 ≠ (4 : Int)) ∨ ((x2 + x3) ≤ (16384 : Int)))) := by omega
theorem q_4757 {x0 x1 x2 x3 : Int} (h0 : (x0 = (0 : Int))) : (((3 : Int) ≠ x0) ∨ (((2 : Int) ≤ x1) ∨ ((x2 + x3) ≤ (16384 : Int)))) := by omega
theorem q_4758 {x0 x1 x2 x3 : Int} (h0 : (x0 = (0 : Int))) : (((2 : Int) ≠ x0) ∨ (((2 : Int) ≤ x1) ∨ ((x2 + x3) ≤ (16384 : Int)))) := by omega
theorem q_4759 {x0 x1 x2 x3 : Int} (h0 : (x0 = (0 : Int))) : (((1 : Int) ≠ x0) ∨ (((2 : Int) ≤ x1) ∨ ((x2 + x3) ≤ (16384 : Int)))) := by omega
theorem q_4760 {x0 x1 : Int} (h0 : (x0 = (0 : Int))) : (((3 : Int) ≠ x0) ∨ ((x1 + (0 : Int)) ≤ (16384 : Int))) := by omega
theorem q_4761 {x0 x1 : Int} (h0 : (x0 = (0 : Int))) : (((2 : Int) ≠ x0) ∨ ((x1 + (0 : Int)) ≤ (16384 : Int))) := by omega
theorem q_4762 {x0 x1 : Int} (h0 : (x0 = (0 : Int))) : (((1 : Int) ≠ x0) ∨ ((x1 + (0 : Int)) ≤ (16384 : Int))) := by omega
theorem q_4763 {x0 : Int} (h0 : ((0 : Int) ≤ x0)) (h1 : (x0 ≤ (5 : Int))) : (((0 : Int) ≤ x0) ∧ (x0 ≤ (5 : Int))) := by omega
theorem q_4764 {x0 x1 x2 x3 : Int} (h0 : (x0 = (1 : Int))) : (((3 : Int) ≠ x0) ∨ ((x1 ≠ (4 : Int)) ∨ ((x2 + x3) ≤ (16384 : Int)))) := by omega
theorem q_4765 {x0 x1 x2 x3 : Int} (h0 : (x0 = (1 : Int))) : (((2 : Int) ≠ x0) ∨ ((x1 ≠ (4 : Int)) ∨ ((x2 + x3) ≤ (16384 : Int)))) := by omega
theorem q_4766 {x0 x1 x2 x3 : Int} (h0 : (x0 = (1 : Int))) : (((0 : Int) ≠ x0) ∨ ((x1 ≠ (4 : Int)) ∨ ((x2 + x3) ≤ (16384 : Int)))) := by omega
theorem q_4767 {x0 x1 x2 x3 : Int} (h0 : (x0 = (1 : Int))) : (((3 : Int) ≠ x0) ∨ (((2 : Int) ≤ x1) ∨ ((x2 + x3) ≤ (16384 : Int)))) := by omega
theorem q_4768 {x0 x1 x2 x3 : Int} (h0 : (x0 = (1 : Int))) : (((2 : Int) ≠ x0) ∨ (((2 : Int) ≤ x1) ∨ ((x2 + x3) ≤ (16384 : Int)))) := by omega
theorem q_4769 {x0 x1 x2 x3 : Int} (h0 : (x0 = (1 : Int))) : (((0 : Int) ≠ x0) ∨ (((2 : Int) ≤ x1) ∨ ((x2 + x3) ≤ (16384 : Int)))) := by omega
theorem q_4770 {x0 x1 : Int} (h0 : (x0 = (1 : Int))) : (((3 : Int) ≠ x0) ∨ ((x1 + (0 : Int)) ≤ (16384 : Int))) := by omega
theorem q_4771 {x0 x1 : Int} (h0 : (x0 = (1 : Int))) : (((2 : Int) ≠ x0) ∨ ((x1 + (0 : Int)) ≤ (16384 : Int))) := by omega
theorem q_4772 {x0 x1 : Int} (h0 : (x0 = (1 : Int))) : (((0 : Int) ≠ x0) ∨ ((x1 + (0 : Int)) ≤ (16384 : Int))) := by omega
theorem q_4773 {x0 x1 x2 x3 : Int} (h0 : (x0 = (2 : Int))) : (((3 : Int) ≠ x0) ∨ ((x1 ≠ (4 : Int)) ∨ ((x2 + x3) ≤ (16384 : Int)))) := by omega
theorem q_4774 {x0 x1 x2 x3 : Int} (h0 : (x0 = (2 : Int))) : (((1 : Int) ≠ x0) ∨ ((x1 ≠ (4 : Int)) ∨ ((x2 + x3) ≤ (16384 : Int)))) := by omega
theorem q_4775 {x0 x1 x2 x3 : Int} (h0 : (x0 = (2 : Int))) : (((0 : Int) ≠ x0) ∨ ((x1 ≠ (4 : Int)) ∨ ((x2 + x3) ≤ (16384 : Int)))) := by omega
theorem q_4776 {x0 x1 x2 x3 : Int} (h0 : (x0 = (2 : Int))) : (((3 : Int) ≠ x0) ∨ (((2 : Int) ≤ x1) ∨ ((x2 + x3) ≤ (16384 : Int)))) := by omega
theorem q_4777 {x0 x1 x2 x3 : Int} (h0 : (x0 = (2 : Int))) : (((1 : Int) ≠ x0) ∨ (((2 : Int) ≤ x1) ∨ ((x2 + x3) ≤ (16384 : Int)))) := by omega
theorem q_4778 {x0 x1 x2 x3 : Int} (h0 : (x0 = (2 : Int))) : (((0 : Int) ≠ x0) ∨ (((2 : Int) ≤ x1) ∨ ((x2 + x3) ≤ (16384 : Int)))) := by omega
theorem q_4779 {x0 x1 : Int} (h0 : (x0 = (2 : Int))) : (((3 : Int) ≠ x0) ∨ ((x1 + (0 : Int)) ≤ (16384 : Int))) := by omega
theorem q_4780 {x0 x1 : Int} (h0 : (x0 = (2 : Int))) : (((1 : Int) ≠ x0) ∨ ((x1 + (0 : Int)) ≤ (16384 : Int))) := by omega
theorem q_4781 {x0 x1 : Int} (h0 : (x0 = (2 : Int))) : (((0 : Int) ≠ x0) ∨ ((x1 + (0 : Int)) ≤ (16384 : Int))) := by omega
theorem q_4782 {x0 x1 x2 x3 : Int} (h0 : (x0 = (3 : Int))) : (((2 : Int) ≠ x0) ∨ ((x1 ≠ (4 : Int)) ∨ ((x2 + x3) ≤ (16384 : Int)))) := by omega
theorem q_4783 {x0 x1 x2 x3 : Int} (h0 : (x0 = (3 : Int))) : (((1 : Int) ≠ x0) ∨ ((x1 ≠ (4 : Int)) ∨ ((x2 + x3) ≤ (16384 : Int)))) := by omega
theorem q_4784 {x0 x1 x2 x3 : Int} (h0 : (x0 = (3 : Int))) : (((0 : Int) ≠ x0) ∨ ((x1 ≠ (4 : Int)) ∨ ((x2 + x3) ≤ (16384 : Int)))) := by omega
theorem q_4785 {x0 x1 x2 x3 : Int} (h0 : (x0 = (3 : Int))) : (((2 : Int) ≠ x0) ∨ (((2 : Int) ≤ x1) ∨ ((x2 + x3) ≤ (16384 : Int)))) := by omega
theorem q_4786 {x0 x1 x2 x3 : Int} (h0 : (x0 = (3 : Int))) : (((1 : Int) ≠ x0) ∨ (((2 : Int) ≤ x1) ∨ ((x2 + x3) ≤ (16384 : Int)))) := by omega
theorem q_4787 {x0 x1 x2 x3 : Int} (h0 : (x0 = (3 : Int))) : (((0 : Int) ≠ x0) ∨ (((2 : Int) ≤ x1) ∨ ((x2 + x3) ≤ (16384 : Int)))) := by omega
theorem q_4788 {x0 x1 : Int} (h0 : (x0 = (3 : Int))) : (((2 : Int) ≠ x0) ∨ ((x1 + (0 : Int)) ≤ (16384 : Int))) := by omega
theorem q_4789 {x0 x1 : Int} (h0 : (x0 = (3 : Int))) : (((1 : Int) ≠ x0) ∨ ((x1 + (0 : Int)) ≤ (16384 : Int))) := by omega
theorem q_4790 {x0 x1 : Int} (h0 : (x0 = (3 : Int))) : (((0 : Int) ≠ x0) ∨ ((x1 + (0 : Int)) ≤ (16384 : Int))) := by omega
theorem q_4791 {x0 : Int} (h0 : (((0 : Int) ≤ x0) ∧ (x0 ≤ (1000000 : Int)))) (h1 : (x0 = (4 : Int))) : (((0 : Int) ≤ (0 : Int)) ∧ ((0 : Int) < x0)) := by omega
theorem q_4792 {x0 : Int} (h0 : (((0 : Int) ≤ x0) ∧ (x0 ≤ (1000000 : Int)))) (h1 : (x0 = (4 : Int))) : (((0 : Int) ≤ (1 : Int)) ∧ ((1 : Int) < x0)) := by omega
theorem q_4793 {x0 : Int} (h0 : (((0 : Int) ≤ x0) ∧ (x0 ≤ (1000000 : Int)))) (h1 : (x0 = (4 : Int))) : (((0 : Int) ≤ (2 : Int)) ∧ ((2 : Int) < x0)) := by omega
theorem q_4794 {x0 : Int} (h0 : (x0 = (4 : Int))) : (((0 : Int) ≤ (3 : Int)) ∧ ((3 : Int) < x0)) := by omega
theorem q_4795 {x0 x1 x2 : Int} (h0 : ((x0 = (0 : Int)) ∧ ((x1 = (0 : Int)) ∧ (x2 = (0 : Int))))) : (x1 = (0 : Int)) := by omega
theorem q_4796 : ((2 : Int) = (2 : Int)) := by omega
theorem q_4797 : ((3 : Int) = (3 : Int)) := by omega
theorem q_4798 {x0 x1 x2 : Int} (h0 : (((0 : Int) ≤ x0) ∧ (x0 ≤ (1000000 : Int)))) (h1 : (((0 : Int) ≤ x1) ∧ ((x1 ≤ x0) ∧ (x0 ≤ (65536 : Int))))) (h2 : (x2 = (0 : Int))) : (((0 : Int) ≤ x2) ∧ ((x2 ≤ x0) ∧ (x0 ≤ (65536 : Int)))) := by omega
theorem q_4800 {x0 x1 : Int} (h0 : (((8 : Int) ≤ x0) ∧ ((x0 ≤ x1) ∧ (x1 ≤ (65536 : Int))))) : (((0 : Int) ≤ (8 : Int)) ∧ (((8 : Int) ≤ (65536 : Int)) ∧ (((0 : Int) ≤ x0) ∧ ((x0 ≤ x1) ∧ (x1 ≤ (65536 : Int)))))) := by omega
theorem q_4801 {x0 x1 : Int} (h0 : (((8 : Int) ≤ x0) ∧ ((x0 ≤ x1) ∧ (x1 ≤ (65536 : Int))))) : (((0 : Int) ≤ x0) ∧ ((x0 ≤ x1) ∧ (x1 ≤ (65536 : Int)))) := by omega
theorem q_4802 {x0 x1 x2 x3 x4 x5 : Int} (h0 : ((0 : Int) ≤ x0)) (h1 : (((8 : Int) ≤ x1) ∧ ((x1 ≤ x2) ∧ (x2 ≤ (65536 : Int))))) (h2 : ((x0 = (-(1 : Int))) ∨ (x3 ≤ (9 : Int)))) (h3 : ((x0 = (-(1 : Int))) ∨ (((0 : Int) ≤ x0) ∧ ((x0 ≤ x1) ∧ (((0 : Int) ≤ x4) ∧ ((0 : Int) ≤ x5)))))) : (((0 : Int) ≤ x0) ∧ ((x0 ≤ (65536 : Int)) ∧ (((0 : Int) ≤ x1) ∧ ((x1 ≤ x2) ∧ (x2 ≤ (65536 : Int)))))) := by omega
theorem q_4803 {x0 x1 : Int} (h0 : (((0 : Int) ≤ x0) ∧ (x0 ≤ (1000000 : Int)))) (h1 : (((0 : Int) ≤ x1) ∧ ((x1 ≤ x0) ∧ (x0 ≤ (65536 : Int))))) : (inr (x0 - x1)) := by omega
theorem q_4804 {x0 x1 x2 x3 x4 : Int} (h0 : (((0 : Int) ≤ x0) ∧ (((0 : Int) ≤ x1) ∧ ((x0 + x1) ≤ x2)))) (h1 : ((x3 + x1) ≤ x4)) : (((0 : Int) ≤ x1) ∧ ((x3 + x1) ≤ x4)) := by omega
theorem q_4805 {x0 : Int} (h0 : (x0 = (1 : Int))) : (inr x0) := by omega
theorem q_4806 {x0 x1 x2 x3 x4 : Int} (h0 : (((0 : Int) ≤ x0) ∧ ((x0 ≤ x1) ∧ (x1 ≤ (65536 : Int))))) (h1 : (((0 : Int) ≤ x2) ∧ (((0 : Int) ≤ x3) ∧ ((x2 + x3) ≤ x4)))) (h2 : ((x0 + x3) ≤ x1)) : (((0 : Int) ≤ x3) ∧ (((0 : Int) ≤ x0) ∧ (((0 : Int) ≤ x2) ∧ (((x2 + x3) ≤ x4) ∧ ((x0 + x3) ≤ x1))))) := by omega
theorem q_4807 {x0 x1 x2 x3 x4 : Int} (h0 : (((0 : Int) ≤ x0) ∧ ((x0 ≤ x1) ∧ (x1 ≤ (65536 : Int))))) (h1 : (((0 : Int) ≤ x2) ∧ (((0 : Int) ≤ x3) ∧ ((x2 + x3) ≤ x4)))) (h2 : ((x0 + x3) ≤ x1)) : (((-(2147483648 : Int)) ≤ (x0 + x3)) ∧ ((x0 + x3) ≤ (2147483647 : Int))) := by omega
theorem q_4808 {x0 x1 x2 x3 x4 : Int} (h0 : (((0 : Int) ≤ x0) ∧ ((x0 ≤ x1) ∧ (x1 ≤ (65536 : Int))))) (h1 : (((0 : Int) ≤ x2) ∧ (((0 : Int) ≤ x3) ∧ ((x2 + x3) ≤ x4)))) (h2 : ((x0 + x3) ≤ x1)) : (((0 : Int) ≤ (x0 + x3)) ∧ (((x0 + x3) ≤ x1) ∧ (x1 ≤ (65536 : Int)))) := by omega
theorem q_4809 {x0 x1 x2 x3 : Int} (h0 : (((0 : Int) ≤ x0) ∧ (((0 : Int) ≤ x1) ∧ ((x0 + x1) ≤ x2)))) (h1 : ((x3 + x1) ≤ x2)) : (((0 : Int) ≤ x1) ∧ ((x3 + x1) ≤ x2)) := by omega
theorem q_4810 {x0 x1 x2 x3 : Int} (h0 : (((0 : Int) ≤ x0) ∧ ((x0 ≤ x1) ∧ (x1 ≤ (65536 : Int))))) (h1 : (((0 : Int) ≤ x2) ∧ (((0 : Int) ≤ x3) ∧ ((x2 + x3) ≤ x1)))) (h2 : ((x0 + x3) ≤ x1)) : (((0 : Int) ≤ x3) ∧ (((0 : Int) ≤ x0) ∧ (((0 : Int) ≤ x2) ∧ (((x2 + x3) ≤ x1) ∧ ((x0 + x3) ≤ x1))))) := by omega
theorem q_4811 {x0 x1 x2 x3 : Int} (h0 : (((0 : Int) ≤ x0) ∧ ((x0 ≤ x1) ∧ (x1 ≤ (65536 : Int))))) (h1 : (((0 : Int) ≤ x2) ∧ (((0 : Int) ≤ x3) ∧ ((x2 + x3) ≤ x1)))) (h2 : ((x0 + x3) ≤ x1)) : (((-(2147483648 : Int)) ≤ (x0 + x3)) ∧ ((x0 + x3) ≤ (2147483647 : Int))) := by omega
theorem q_4812 {x0 x1 x2 x3 : Int} (h0 : (((0 : Int) ≤ x0) ∧ ((x0 ≤ x1) ∧ (x1 ≤ (65536 : Int))))) (h1 : (((0 : Int) ≤ x2) ∧ (((0 : Int) ≤ x3) ∧ ((x2 + x3) ≤ x1)))) (h2 : ((x0 + x3) ≤ x1)) : (((0 : Int) ≤ (x0 + x3)) ∧ (((x0 + x3) ≤ x1) ∧ (x1 ≤ (65536 : Int)))) := by omega
theorem q_4816 {x0 : Int} (h0 : ((0 : Int) ≤ x0)) (h1 : (x0 ≤ (65536 : Int))) : (((0 : Int) ≤ x0) ∧ (x0 ≤ (65536 : Int))) := by omega
theorem q_4817 {x0 : Int} (h0 : ((0 : Int) ≤ x0)) (h1 : (x0 ≤ (4 : Int))) : (((0 : Int) ≤ x0) ∧ (x0 ≤ (4 : Int))) := by omega
theorem q_4818 {x0 x1 x2 x3 x4 : Int} (h0 : (x0 < (0 : Int))) : ((x0 = x0) ∧ (((x0 < (0 : Int)) ∧ ((x1 = x1) ∧ (x2 = x2))) ∨ (((0 : Int) ≤ x0) ∧ ((x1 = x3) ∧ (x2 = x4))))) := by omega
theorem q_4819 {x0 x1 x2 x3 x4 : Int} (h0 : ((0 : Int) ≤ x0)) : ((x0 = x0) ∧ (((x0 < (0 : Int)) ∧ ((x1 = x2) ∧ (x3 = x4))) ∨ (((0 : Int) ≤ x0) ∧ ((x1 = x1) ∧ (x3 = x3))))) := by omega
theorem q_4820 {x0 x1 : Int} (h0 : (x0 = x1)) (h1 : (((0 : Int) ≤ x0) ∧ (x0 ≤ (15 : Int)))) : (((0 : Int) ≤ x1) ∧ (x1 ≤ (15 : Int))) := by omega
theorem q_4821 {x0 x1 x2 x3 x4 x5 : Int} (h0 : (x0 ≤ (0 : Int))) (h1 : (x1 = (0 : Int))) (h2 : (x1 = x2)) (h3 : (x3 = x2)) (h4 : (x0 = x4)) (h5 : (x5 = x4)) (h6 : (((0 : Int) ≤ x0) ∧ (x0 ≤ (2 : Int)))) : (((x5 = (0 : Int)) ∧ ((0 : Int) = x3)) ∨ (((x5 = (1 : Int)) ∧ ((0 : Int) = (2 : Int))) ∨ ((x5 = (2 : Int)) ∧ ((0 : Int) = (4 : Int))))) := by omega
theorem q_4822 {x0 x1 : Int} (h0 : (((x0 = (1 : Int)) ∧ (x1 = (2 : Int))) ∨ ((x0 = (2 : Int)) ∧ (x1 = (4 : Int))))) : (((0 : Int) ≤ x1) ∧ (x1 ≤ (8 : Int))) := by omega
theorem q_4823 {x0 x1 : Int} (h0 : (((x0 = (1 : Int)) ∧ (x1 = (2 : Int))) ∨ ((x0 = (2 : Int)) ∧ (x1 = (4 : Int))))) : (inr x1) := by omega
theorem q_4824 {x0 : Int} (h0 : (inr x0)) : (inrJ (x0 - (256 : Int))) := by omega
theorem q_4825 {x0 : Int} (h0 : (((0 : Int) ≤ x0) ∧ (x0 ≤ (3 : Int)))) : (((0 : Int) ≤ x0) ∧ (x0 ≤ (4 : Int))) := by omega
theorem q_4826 {x0 : Int} (h0 : (x0 = (0 : Int))) : ((0 : Int) = ((32 : Int) * x0)) := by omega
theorem q_4827 {x0 : Int} (h0 : (((0 : Int) ≤ x0) ∧ (x0 ≤ (1000000 : Int)))) (h1 : (x0 = (10 : Int))) : (((0 : Int) ≤ (2 : Int)) ∧ ((2 : Int) < x0)) := by omega
theorem q_4828 {x0 x1 : Int} (h0 : (inr x0)) (h1 : (x1 = x0)) (h2 : (((1 : Int) ≤ x1) ∧ (x1 ≤ (65536 : Int)))) : ((inr x0) ∧ ((0 : Int) < x0)) := by omega
theorem q_4829 {x0 x1 x2 : Int} (h0 : (x0 = x1)) (h1 : (((0 : Int) ≤ x2) ∧ (x2 ≤ (16384 : Int)))) (h2 : (((1 : Int) ≤ x0) ∧ (x0 ≤ (65536 : Int)))) : ((inr ((x2 + x1) - (1 : Int))) ∧ ((0 : Int) ≤ ((x2 + x1) - (1 : Int)))) := by omega
theorem q_4830 {x0 : Int} (h0 : (inr x0)) (h1 : (((0 : Int) ≤ x0) ∧ (x0 ≤ (16384 : Int)))) : ((inr x0) ∧ ((0 : Int) ≤ x0)) := by omega
theorem q_4831 {x0 : Int} (h0 : (((0 : Int) ≤ x0) ∧ (x0 ≤ (16384 : Int)))) : (inr ((x0 + (x0 / (255 : Int))) + (16 : Int))) := by omega
theorem q_4832 {x0 : Int} (h0 : (((0 : Int) ≤ x0) ∧ (x0 ≤ (16384 : Int)))) : (inr (((32 : Int) + x0) + (x0 / (6 : Int)))) := by omega
theorem q_4833 {x0 : Int} (h0 : (((0 : Int) ≤ x0) ∧ (x0 ≤ (1000000 : Int)))) (h1 : (x0 = (10 : Int))) : (((0 : Int) ≤ (6 : Int)) ∧ ((6 : Int) < x0)) := by omega
theorem q_4834 {x0 : Int} (h0 : (inr x0)) (h1 : (((1 : Int) ≤ x0) ∧ (x0 ≤ (65536 : Int)))) : ((inr x0) ∧ ((0 : Int) < x0)) := by omega
theorem q_4835 {x0 x1 : Int} (h0 : (((0 : Int) ≤ x0) ∧ (x0 ≤ (16384 : Int)))) (h1 : (((1 : Int) ≤ x1) ∧ (x1 ≤ (65536 : Int)))) : ((inr ((x0 + x1) - (1 : Int))) ∧ ((0 : Int) ≤ ((x0 + x1) - (1 : Int)))) := by omega
theorem q_4836 {x0 : Int} (h0 : (((0 : Int) ≤ x0) ∧ (x0 ≤ (16384 : Int)))) : (inr ((700 : Int) + x0)) := by omega
theorem q_4837 {x0 : Int} (h0 : ((0 : Int) ≤ x0)) (h1 : (x0 ≤ (16384 : Int))) : (((0 : Int) ≤ x0) ∧ (x0 ≤ (16384 : Int))) := by omega
theorem q_4838 {x0 x1 x2 x3 : Int} : (((x0 = x0) ∧ ((x1 = x1) ∧ ((x2 = x2) ∧ (x3 = x3)))) ∨ ((x0 = (-(1 : Int))) ∧ ((x1 = (-(1 : Int))) ∧ ((x2 = (-(1 : Int))) ∧ (x3 = (-(1 : Int))))))) := by omega
theorem q_4839 {x0 : Int} : ((x0 = x0) ∨ (x0 = (0 : Int))) := by omega
theorem q_4840 {x0 x1 x2 x3 x4 x5 x6 x7 : Int} (h0 : (x0 = (-(1 : Int)))) (h1 : ((x1 = (-(1 : Int))) ∧ ((x2 = (-(1 : Int))) ∧ (x3 = (-(1 : Int)))))) : (((x0 = x4) ∧ ((x1 = x5) ∧ ((x2 = x6) ∧ (x3 = x7)))) ∨ ((x0 = (-(1 : Int))) ∧ ((x1 = (-(1 : Int))) ∧ ((x2 = (-(1 : Int))) ∧ (x3 = (-(1 : Int))))))) := by omega
theorem q_4841 {x0 x1 : Int} (h0 : (x0 = (0 : Int))) : ((x0 = x1) ∨ (x0 = (0 : Int))) := by omega
theorem q_4842 {x0 x1 x2 x3 : Int} (h0 : ((x0 = (0 : Int)) ∧ ((x1 = (0 : Int)) ∧ (x2 = (0 : Int))))) : ((x0 = x3) ∨ (x0 = (0 : Int))) := by omega
theorem q_4843 {x0 x1 : Int} (h0 : (((0 : Int) ≤ x0) ∧ ((x0 ≤ x1) ∧ (x1 ≤ (65536 : Int))))) (h1 : (x0 ≤ (16384 : Int))) : (((0 : Int) ≤ x0) ∧ (x0 ≤ (16384 : Int))) := by omega
theorem q_4844 {x0 x1 x2 : Int} (h0 : (((0 : Int) ≤ x0) ∧ (x0 ≤ (1 : Int)))) (h1 : (inr x1)) (h2 : (inr x2)) : (inrJ ((((8 : Int) * x1) + x2) + x0)) := by omega
theorem q_4845 {x0 x1 x2 : Int} (h0 : (((0 : Int) ≤ x0) ∧ ((x0 ≤ x1) ∧ (x1 ≤ (16384 : Int))))) (h1 : (x2 ≤ x0)) : (((0 : Int) ≤ x0) ∧ ((x2 ≤ x0) ∧ ((x0 ≤ x1) ∧ (x1 ≤ (16384 : Int))))) := by omega
theorem q_4846 {x0 x1 x2 x3 : Int} (h0 : (((0 : Int) ≤ x0) ∧ ((x0 ≤ x1) ∧ (x1 ≤ x2)))) (h1 : (((0 : Int) ≤ x2) ∧ ((x2 ≤ x3) ∧ ((x3 ≤ (65536 : Int)) ∧ (x2 ≤ (16384 : Int)))))) : (((x1 - x0) < (0 : Int)) ∨ (((0 : Int) ≤ x0) ∧ ((x0 + (x1 - x0)) ≤ x3))) := by omega
theorem q_4847 {x0 x1 x2 x3 : Int} (h0 : (((0 : Int) ≤ x0) ∧ ((x0 ≤ x1) ∧ (x1 ≤ x2)))) (h1 : (((0 : Int) ≤ x2) ∧ ((x2 ≤ x3) ∧ ((x3 ≤ (65536 : Int)) ∧ (x2 ≤ (16384 : Int)))))) : (((x1 - x0) < (0 : Int)) ∨ (((0 : Int) ≤ (0 : Int)) ∧ (((0 : Int) + (x1 - x0)) ≤ x3))) := by omega
theorem q_4848 {x0 : Int} (h0 : (x0 = (0 : Int))) : (((x0 = (1 : Int)) ∧ ((0 : Int) = (4 : Int))) ∨ ((x0 = (0 : Int)) ∧ ((0 : Int) = (0 : Int)))) := by omega
theorem q_4849 {x0 x1 x2 x3 : Int} (h0 : (x0 = (0 : Int))) : (((x0 = (1 : Int)) ∧ ((x1 - x2) = x3)) ∨ ((x0 = (0 : Int)) ∧ ((x1 - x2) = (x1 - x2)))) := by omega
theorem q_4850 {x0 x1 x2 x3 x4 x5 x6 x7 x8 x9 x10 x11 x12 : Int} (h0 : (((0 : Int) ≤ x0) ∧ (x0 ≤ (1000000 : Int)))) (h1 : ((x1 = (10 : Int)) ∧ ((x2 = (256 : Int)) ∧ ((x3 = (53 : Int)) ∧ ((x0 = (13 : Int)) ∧ ((x4 = (3 : Int)) ∧ ((x5 = (2 : Int)) ∧ ((x6 = (3 : Int)) ∧ ((x7 = (3 : Int)) ∧ ((x8 = (3 : Int)) ∧ ((x9 = (3 : Int)) ∧ ((x10 = (3 : Int)) ∧ ((x11 = (3 : Int)) ∧ (x12 = (3 : Int))))))))))))))) : (((0 : Int) ≤ (1 : Int)) ∧ ((1 : Int) < x0)) := by omega
theorem q_4851 {x0 x1 x2 x3 x4 x5 x6 x7 x8 x9 x10 x11 x12 : Int} (h0 : ((x0 = (10 : Int)) ∧ ((x1 = (256 : Int)) ∧ ((x2 = (53 : Int)) ∧ ((x3 = (13 : Int)) ∧ ((x4 = (3 : Int)) ∧ ((x5 = (2 : Int)) ∧ ((x6 = (3 : Int)) ∧ ((x7 = (3 : Int)) ∧ ((x8 = (3 : Int)) ∧ ((x9 = (3 : Int)) ∧ ((x10 = (3 : Int)) ∧ ((x11 = (3 : Int)) ∧ (x12 = (3 : Int))))))))))))))) : ((x8 = (3 : Int)) ∧ (x9 = (3 : Int))) := by omega
theorem q_4852 {x0 x1 x2 x3 x4 x5 x6 x7 x8 x9 x10 x11 x12 : Int} (h0 : ((x0 = (10 : Int)) ∧ ((x1 = (256 : Int)) ∧ ((x2 = (53 : Int)) ∧ ((x3 = (13 : Int)) ∧ ((x4 = (3 : Int)) ∧ ((x5 = (2 : Int)) ∧ ((x6 = (3 : Int)) ∧ ((x7 = (3 : Int)) ∧ ((x8 = (3 : Int)) ∧ ((x9 = (3 : Int)) ∧ ((x10 = (3 : Int)) ∧ ((x11 = (3 : Int)) ∧ (x12 = (3 : Int))))))))))))))) : ((x6 = (3 : Int)) ∧ (x7 = (3 : Int))) := by omega
theorem q_4853 {x0 x1 x2 x3 x4 x5 x6 x7 x8 x9 x10 x11 x12 : Int} (h0 : ((x0 = (10 : Int)) ∧ ((x1 = (256 : Int)) ∧ ((x2 = (53 : Int)) ∧ ((x3 = (13 : Int)) ∧ ((x4 = (3 : Int)) ∧ ((x5 = (2 : Int)) ∧ ((x6 = (3 : Int)) ∧ ((x7 = (3 : Int)) ∧ ((x8 = (3 : Int)) ∧ ((x9 = (3 : Int)) ∧ ((x10 = (3 : Int)) ∧ ((x11 = (3 : Int)) ∧ (x12 = (3 : Int))))))))))))))) : ((x3 = (13 : Int)) ∧ (x4 = (3 : Int))) := by omega
theorem q_4854 {x0 : Int} : (((0 : Int) = (0 : Int)) ∨ (((0 : Int) ≤ x0) ∧ (x0 ≤ (3 : Int)))) := by omega
theorem q_4855 {x0 x1 x2 x3 x4 x5 x6 x7 x8 x9 x10 x11 x12 : Int} (h0 : ((x0 = (10 : Int)) ∧ ((x1 = (256 : Int)) ∧ ((x2 = (53 : Int)) ∧ ((x3 = (13 : Int)) ∧ ((x4 = (3 : Int)) ∧ ((x5 = (2 : Int)) ∧ ((x6 = (3 : Int)) ∧ ((x7 = (3 : Int)) ∧ ((x8 = (3 : Int)) ∧ ((x9 = (3 : Int)) ∧ ((x10 = (3 : Int)) ∧ ((x11 = (3 : Int)) ∧ (x12 = (3 : Int))))))))))))))) : (x1 = (256 : Int)) := by omega
theorem q_4856 {x0 x1 x2 x3 x4 x5 x6 x7 x8 x9 x10 x11 x12 : Int} (h0 : ((x0 = (10 : Int)) ∧ ((x1 = (256 : Int)) ∧ ((x2 = (53 : Int)) ∧ ((x3 = (13 : Int)) ∧ ((x4 = (3 : Int)) ∧ ((x5 = (2 : Int)) ∧ ((x6 = (3 : Int)) ∧ ((x7 = (3 : Int)) ∧ ((x8 = (3 : Int)) ∧ ((x9 = (3 : Int)) ∧ ((x10 = (3 : Int)) ∧ ((x11 = (3 : Int)) ∧ (x12 = (3 : Int))))))))))))))) : (x0 = (10 : Int)) := by omega
theorem q_4857 {x0 x1 x2 x3 x4 x5 : Int} (h0 : (((0 : Int) ≤ x0) ∧ ((x0 ≤ x1) ∧ (x1 ≤ x2)))) (h1 : (((0 : Int) ≤ x2) ∧ ((x2 ≤ x3) ∧ ((x3 ≤ (65536 : Int)) ∧ (x2 ≤ (16384 : Int)))))) (h2 : ((x4 = (0 : Int)) ∧ (x5 ≤ (x1 - x0)))) : (x5 ≤ (16384 : Int)) := by omega
theorem q_4858 {x0 x1 x2 x3 x4 x5 x6 x7 x8 x9 x10 x11 x12 : Int} (h0 : ((x0 = (10 : Int)) ∧ ((x1 = (256 : Int)) ∧ ((x2 = (53 : Int)) ∧ ((x3 = (13 : Int)) ∧ ((x4 = (3 : Int)) ∧ ((x5 = (2 : Int)) ∧ ((x6 = (3 : Int)) ∧ ((x7 = (3 : Int)) ∧ ((x8 = (3 : Int)) ∧ ((x9 = (3 : Int)) ∧ ((x10 = (3 : Int)) ∧ ((x11 = (3 : Int)) ∧ (x12 = (3 : Int))))))))))))))) : (x5 = (2 : Int)) := by omega
theorem q_4859 {x0 x1 x2 : Int} (h0 : ((0 : Int) < (x0 - x1))) (h1 : (inr x0)) (h2 : (((0 : Int) ≤ x1) ∧ ((x1 ≤ x0) ∧ (x0 ≤ x2)))) : (inr (x0 - x1)) := by omega
theorem q_4860 {x0 x1 : Int} (h0 : (((0 : Int) ≤ x0) ∧ ((x0 ≤ x1) ∧ (x1 ≤ (65536 : Int))))) : (inr (x0 + (1 : Int))) := by omega
theorem q_4861 {x0 x1 x2 : Int} (h0 : (((0 : Int) ≤ x0) ∧ ((x1 ≤ x0) ∧ ((x0 ≤ x2) ∧ (x2 ≤ (16384 : Int)))))) : (x1 ≤ x0) := by omega
theorem q_4862 {x0 x1 x2 x3 x4 x5 x6 x7 x8 x9 x10 x11 x12 : Int} (h0 : ((x0 = (10 : Int)) ∧ ((x1 = (256 : Int)) ∧ ((x2 = (53 : Int)) ∧ ((x3 = (13 : Int)) ∧ ((x4 = (3 : Int)) ∧ ((x5 = (2 : Int)) ∧ ((x6 = (3 : Int)) ∧ ((x7 = (3 : Int)) ∧ ((x8 = (3 : Int)) ∧ ((x9 = (3 : Int)) ∧ ((x10 = (3 : Int)) ∧ ((x11 = (3 : Int)) ∧ (x12 = (3 : Int))))))))))))))) : (x9 = (3 : Int)) := by omega
theorem q_4863 {x0 x1 x2 x3 x4 x5 : Int} (h0 : (((0 : Int) ≤ x0) ∧ ((x0 ≤ x1) ∧ (x1 ≤ x2)))) (h1 : (((0 : Int) ≤ x2) ∧ ((x2 ≤ x3) ∧ ((x3 ≤ (65536 : Int)) ∧ (x2 ≤ (16384 : Int)))))) (h2 : (((0 : Int) ≤ x4) ∧ ((x4 ≤ x5) ∧ (x4 ≤ (x1 - x0))))) : (x4 ≤ (16384 : Int)) := by omega
theorem q_4864 {x0 x1 x2 x3 : Int} (h0 : (((0 : Int) ≤ x0) ∧ ((x0 ≤ x1) ∧ (x0 ≤ (x2 - x3))))) : (((0 : Int) ≤ x0) ∧ (x0 ≤ x1)) := by omega
theorem q_4865 {x0 x1 : Int} (h0 : (x0 = x1)) : (((2 : Int) < (0 : Int)) ∨ (x0 = x1)) := by omega
theorem q_4866 {x0 x1 : Int} (h0 : (x0 = x1)) : (((1 : Int) < (0 : Int)) ∨ (x0 = x1)) := by omega
theorem q_4867 {x0 x1 : Int} (h0 : (x0 = x1)) : (((0 : Int) < (0 : Int)) ∨ (x0 = x1)) := by omega
theorem q_4868 {x0 x1 x2 x3 : Int} (h0 : (((0 : Int) ≤ x0) ∧ ((x0 ≤ x1) ∧ (x0 ≤ (x2 - x3))))) : (x0 ≤ x1) := by omega
theorem q_4869 {x0 x1 x2 x3 x4 : Int} (h0 : (((0 : Int) ≤ x0) ∧ ((x0 ≤ x1) ∧ (x0 ≤ (x2 - x3))))) (h1 : (x0 ≤ x4)) : (((0 : Int) ≤ x0) ∧ (x0 ≤ x4)) := by omega
theorem q_4870 {x0 x1 x2 x3 x4 x5 x6 x7 x8 x9 x10 x11 x12 : Int} (h0 : ((x0 = (10 : Int)) ∧ ((x1 = (256 : Int)) ∧ ((x2 = (53 : Int)) ∧ ((x3 = (13 : Int)) ∧ ((x4 = (3 : Int)) ∧ ((x5 = (2 : Int)) ∧ ((x6 = (3 : Int)) ∧ ((x7 = (3 : Int)) ∧ ((x8 = (3 : Int)) ∧ ((x9 = (3 : Int)) ∧ ((x10 = (3 : Int)) ∧ ((x11 = (3 : Int)) ∧ (x12 = (3 : Int))))))))))))))) : ((x4 = (3 : Int)) ∧ ((x8 = (3 : Int)) ∧ ((x10 = (3 : Int)) ∧ ((x11 = (3 : Int)) ∧ (x12 = (3 : Int)))))) := by omega
theorem q_4871 {x0 x1 : Int} (h0 : (((0 : Int) ≤ x0) ∧ (x0 ≤ (3 : Int)))) : ((x1 = (0 : Int)) ∨ (((0 : Int) ≤ x0) ∧ (x0 ≤ (3 : Int)))) := by omega
theorem q_4872 {x0 x1 x2 x3 : Int} (h0 : (((x0 = (1 : Int)) ∧ (x1 < (x2 - x3))) ∨ ((x0 = (0 : Int)) ∧ ((x2 - x3) ≤ x1)))) : (((0 : Int) ≤ x0) ∧ (x0 ≤ (1 : Int))) := by omega
theorem q_4873 {x0 x1 x2 : Int} (h0 : ((x0 - x1) ≤ x2)) : ((((0 : Int) = (1 : Int)) ∧ (x2 < (x0 - x1))) ∨ (((0 : Int) = (0 : Int)) ∧ ((x0 - x1) ≤ x2))) := by omega
theorem q_4874 {x0 x1 x2 : Int} (h0 : (x0 < (x1 - x2))) : ((((1 : Int) = (1 : Int)) ∧ (x0 < (x1 - x2))) ∨ (((1 : Int) = (0 : Int)) ∧ ((x1 - x2) ≤ x0))) := by omega
theorem q_4875 {x0 x1 : Int} (h0 : ((3 : Int) ≤ x0)) : ((x0 ≥ (3 : Int)) ∨ ((x0 < (3 : Int)) ∧ (x1 ≤ (0 : Int)))) := by omega
theorem q_4876 {x0 x1 : Int} (h0 : (x0 < (3 : Int))) (h1 : (x1 ≤ (0 : Int))) : ((x0 ≥ (3 : Int)) ∨ ((x0 < (3 : Int)) ∧ (x1 ≤ (0 : Int)))) := by omega
theorem q_4877 {x0 x1 x2 x3 x4 x5 x6 : Int} (h0 : (((0 : Int) ≤ x0) ∧ (x0 ≤ (1000000 : Int)))) (h1 : ((0 : Int) < x1)) (h2 : ((x2 = (3 : Int)) ∧ ((x0 = x3) ∧ ((x4 = x3) ∧ ((x5 = x3) ∧ ((x6 = (0 : Int)) ∧ (x3 ≤ (16384 : Int)))))))) (h3 : (x1 ≤ x3)) : (((1 : Int) ≤ x1) ∧ ((x1 ≤ x0) ∧ (x0 ≤ (65536 : Int)))) := by omega
theorem q_4878 {x0 x1 x2 x3 x4 x5 x6 x7 x8 x9 x10 x11 x12 : Int} (h0 : ((x0 = (10 : Int)) ∧ ((x1 = (256 : Int)) ∧ ((x2 = (53 : Int)) ∧ ((x3 = (13 : Int)) ∧ ((x4 = (3 : Int)) ∧ ((x5 = (2 : Int)) ∧ ((x6 = (3 : Int)) ∧ ((x7 = (3 : Int)) ∧ ((x8 = (3 : Int)) ∧ ((x9 = (3 : Int)) ∧ ((x10 = (3 : Int)) ∧ ((x11 = (3 : Int)) ∧ (x12 = (3 : Int))))))))))))))) : ((x6 = (3 : Int)) ∧ ((x8 = (3 : Int)) ∧ ((x10 = (3 : Int)) ∧ ((x11 = (3 : Int)) ∧ ((x12 = (3 : Int)) ∧ (x4 = (3 : Int))))))) := by omega
theorem q_4879 {x0 x1 x2 x3 x4 x5 x6 x7 x8 x9 x10 x11 x12 x13 x14 x15 x16 x17 x18 : Int} (h0 : ((x0 = (10 : Int)) ∧ ((x1 = (256 : Int)) ∧ ((x2 = (53 : Int)) ∧ ((x3 = (13 : Int)) ∧ ((x4 = (3 : Int)) ∧ ((x5 = (2 : Int)) ∧ ((x6 = (3 : Int)) ∧ ((x7 = (3 : Int)) ∧ ((x8 = (3 : Int)) ∧ ((x9 = (3 : Int)) ∧ ((x10 = (3 : Int)) ∧ ((x11 = (3 : Int)) ∧ (x12 = (3 : Int))))))))))))))) (h1 : ((x13 = (3 : Int)) ∧ ((x14 = x15) ∧ ((x16 = x15) ∧ ((x17 = x15) ∧ ((x18 = (0 : Int)) ∧ (x15 ≤ (16384 : Int)))))))) : ((x2 = (53 : Int)) ∧ (x13 = (3 : Int))) := by omega
theorem q_4880 {x0 x1 x2 x3 x4 x5 x6 : Int} (h0 : ((x0 = (-(1 : Int))) ∨ ((x0 = x1) ∨ ((x0 = x2) ∨ (x0 = x3))))) (h1 : (x4 = (0 : Int))) (h2 : (((2 : Int) < x4) ∨ (x5 = x0))) (h3 : (x6 = x5)) : (((2 : Int) < (x4 + (1 : Int))) ∨ (x6 = x0)) := by omega
theorem q_4881 {x0 x1 x2 x3 x4 x5 x6 : Int} (h0 : ((x0 = (-(1 : Int))) ∨ ((x0 = x1) ∨ ((x0 = x2) ∨ (x0 = x3))))) (h1 : (x4 = (0 : Int))) (h2 : (((1 : Int) < x4) ∨ (x5 = x0))) (h3 : (x6 = x5)) : (((1 : Int) < (x4 + (1 : Int))) ∨ (x6 = x0)) := by omega
theorem q_4882 {x0 x1 x2 : Int} (h0 : (x0 = (0 : Int))) : (((0 : Int) < (x0 + (1 : Int))) ∨ (x1 = x2)) := by omega
theorem q_4883 {x0 x1 x2 x3 x4 x5 : Int} (h0 : (((0 : Int) ≤ x0) ∧ ((x0 ≤ (3 : Int)) ∧ (((0 : Int) ≤ x1) ∧ ((x1 ≤ (3 : Int)) ∧ (((0 : Int) ≤ x2) ∧ (x2 ≤ (3 : Int)))))))) (h1 : (((0 : Int) ≤ x3) ∧ (x3 ≤ (3 : Int)))) (h2 : (x4 = x1)) (h3 : (x5 = x2)) : (((0 : Int) ≤ x3) ∧ ((x3 ≤ (3 : Int)) ∧ (((0 : Int) ≤ x4) ∧ ((x4 ≤ (3 : Int)) ∧ (((0 : Int) ≤ x5) ∧ (x5 ≤ (3 : Int))))))) := by omega
theorem q_4884 {x0 x1 x2 x3 x4 x5 x6 : Int} (h0 : (((0 : Int) ≤ x0) ∧ (x0 ≤ (1000000 : Int)))) (h1 : ((0 : Int) < x1)) (h2 : ((x2 = (3 : Int)) ∧ ((x3 = x4) ∧ ((x0 = x4) ∧ ((x5 = x4) ∧ ((x6 = (0 : Int)) ∧ (x4 ≤ (16384 : Int)))))))) (h3 : (x1 ≤ x4)) : (((1 : Int) ≤ x1) ∧ ((x1 ≤ x0) ∧ (x0 ≤ (65536 : Int)))) := by omega
theorem q_4885 {x0 x1 x2 x3 x4 x5 x6 : Int} (h0 : ((x0 = (-(1 : Int))) ∨ ((x0 = x1) ∨ ((x0 = x2) ∨ (x0 = x3))))) (h1 : (x4 = (1 : Int))) (h2 : (((2 : Int) < x4) ∨ (x5 = x0))) (h3 : (x6 = x5)) : (((2 : Int) < (x4 + (1 : Int))) ∨ (x6 = x0)) := by omega
theorem q_4886 {x0 x1 x2 : Int} (h0 : (x0 = (1 : Int))) : (((1 : Int) < (x0 + (1 : Int))) ∨ (x1 = x2)) := by omega
theorem q_4887 {x0 x1 x2 : Int} (h0 : (x0 = (1 : Int))) : (((0 : Int) < (x0 + (1 : Int))) ∨ (x1 = x2)) := by omega
theorem q_4888 {x0 x1 x2 x3 x4 x5 : Int} (h0 : (((0 : Int) ≤ x0) ∧ ((x0 ≤ (3 : Int)) ∧ (((0 : Int) ≤ x1) ∧ ((x1 ≤ (3 : Int)) ∧ (((0 : Int) ≤ x2) ∧ (x2 ≤ (3 : Int)))))))) (h1 : (((0 : Int) ≤ x3) ∧ (x3 ≤ (3 : Int)))) (h2 : (x4 = x0)) (h3 : (x5 = x2)) : (((0 : Int) ≤ x4) ∧ ((x4 ≤ (3 : Int)) ∧ (((0 : Int) ≤ x3) ∧ ((x3 ≤ (3 : Int)) ∧ (((0 : Int) ≤ x5) ∧ (x5 ≤ (3 : Int))))))) := by omega
theorem q_4889 {x0 x1 x2 x3 x4 x5 x6 : Int} (h0 : (((0 : Int) ≤ x0) ∧ (x0 ≤ (1000000 : Int)))) (h1 : ((0 : Int) < x1)) (h2 : ((x2 = (3 : Int)) ∧ ((x3 = x4) ∧ ((x5 = x4) ∧ ((x0 = x4) ∧ ((x6 = (0 : Int)) ∧ (x4 ≤ (16384 : Int)))))))) (h3 : (x1 ≤ x4)) : (((1 : Int) ≤ x1) ∧ ((x1 ≤ x0) ∧ (x0 ≤ (65536 : Int)))) := by omega
theorem q_4890 {x0 x1 x2 : Int} (h0 : (x0 = (2 : Int))) : (((2 : Int) < (x0 + (1 : Int))) ∨ (x1 = x2)) := by omega
theorem q_4891 {x0 x1 x2 : Int} (h0 : (x0 = (2 : Int))) : (((1 : Int) < (x0 + (1 : Int))) ∨ (x1 = x2)) := by omega
theorem q_4892 {x0 x1 x2 : Int} (h0 : (x0 = (2 : Int))) : (((0 : Int) < (x0 + (1 : Int))) ∨ (x1 = x2)) := by omega
theorem q_4893 {x0 x1 x2 x3 x4 x5 : Int} (h0 : (((0 : Int) ≤ x0) ∧ ((x0 ≤ (3 : Int)) ∧ (((0 : Int) ≤ x1) ∧ ((x1 ≤ (3 : Int)) ∧ (((0 : Int) ≤ x2) ∧ (x2 ≤ (3 : Int)))))))) (h1 : (((0 : Int) ≤ x3) ∧ (x3 ≤ (3 : Int)))) (h2 : (x4 = x0)) (h3 : (x5 = x1)) : (((0 : Int) ≤ x4) ∧ ((x4 ≤ (3 : Int)) ∧ (((0 : Int) ≤ x5) ∧ ((x5 ≤ (3 : Int)) ∧ (((0 : Int) ≤ x3) ∧ (x3 ≤ (3 : Int))))))) := by omega
theorem q_4894 {x0 x1 x2 x3 : Int} (h0 : ((0 : Int) < (x0 - x1))) (h1 : (((0 : Int) ≤ x1) ∧ ((x1 ≤ x0) ∧ (x0 ≤ x2)))) (h2 : (((0 : Int) ≤ x2) ∧ ((x2 ≤ x3) ∧ ((x3 ≤ (65536 : Int)) ∧ (x2 ≤ (16384 : Int)))))) : (((0 : Int) ≤ x1) ∧ ((x1 ≤ (65536 : Int)) ∧ ((x0 ≤ x3) ∧ (x3 ≤ (65536 : Int))))) := by omega
theorem q_4895 {x0 x1 x2 x3 : Int} (h0 : ((0 : Int) < (x0 - x1))) (h1 : (inr x0)) (h2 : (((0 : Int) ≤ x2) ∧ (x2 ≤ (1 : Int)))) (h3 : (((0 : Int) ≤ x1) ∧ ((x1 ≤ x0) ∧ (x0 ≤ x3)))) : (inrJ ((((8 : Int) * (x0 - x1)) + (2 : Int)) + x2)) := by omega
theorem q_4896 {x0 x1 x2 x3 : Int} (h0 : ((0 : Int) < (x0 - x1))) (h1 : (((0 : Int) ≤ x1) ∧ ((x1 ≤ x0) ∧ (x0 ≤ x2)))) (h2 : (((0 : Int) ≤ x2) ∧ ((x2 ≤ x3) ∧ ((x3 ≤ (65536 : Int)) ∧ (x2 ≤ (16384 : Int)))))) : (((0 : Int) ≤ x1) ∧ (x1 < x3)) := by omega
theorem q_4897 {x0 x1 x2 x3 x4 x5 x6 x7 x8 x9 x10 x11 x12 : Int} (h0 : (((0 : Int) ≤ x0) ∧ (x0 ≤ (1000000 : Int)))) (h1 : ((x1 = (10 : Int)) ∧ ((x2 = (256 : Int)) ∧ ((x3 = (53 : Int)) ∧ ((x0 = (13 : Int)) ∧ ((x4 = (3 : Int)) ∧ ((x5 = (2 : Int)) ∧ ((x6 = (3 : Int)) ∧ ((x7 = (3 : Int)) ∧ ((x8 = (3 : Int)) ∧ ((x9 = (3 : Int)) ∧ ((x10 = (3 : Int)) ∧ ((x11 = (3 : Int)) ∧ (x12 = (3 : Int))))))))))))))) : (((0 : Int) ≤ (2 : Int)) ∧ ((2 : Int) < x0)) := by omega
theorem q_4898 {x0 x1 : Int} (h0 : (((0 : Int) ≤ x0) ∧ ((x0 ≤ x1) ∧ (x1 ≤ (16384 : Int))))) : (((0 : Int) ≤ x0) ∧ ((x0 ≤ x0) ∧ ((x0 ≤ x1) ∧ (x1 ≤ (16384 : Int))))) := by omega
theorem q_4899 {x0 x1 x2 x3 x4 x5 x6 x7 : Int} (h0 : ((x0 = (-(1 : Int))) ∨ ((x0 = x1) ∨ ((x0 = x2) ∨ ((x0 = x3) ∨ (x0 = x4)))))) (h1 : (x5 = (0 : Int))) (h2 : (((2 : Int) < x5) ∨ (x6 = x0))) (h3 : (x7 = x6)) : (((2 : Int) < (x5 + (1 : Int))) ∨ (x7 = x0)) := by omega
theorem q_4900 {x0 x1 x2 x3 x4 x5 x6 x7 : Int} (h0 : ((x0 = (-(1 : Int))) ∨ ((x0 = x1) ∨ ((x0 = x2) ∨ ((x0 = x3) ∨ (x0 = x4)))))) (h1 : (x5 = (0 : Int))) (h2 : (((1 : Int) < x5) ∨ (x6 = x0))) (h3 : (x7 = x6)) : (((1 : Int) < (x5 + (1 : Int))) ∨ (x7 = x0)) := by omega
theorem q_4901 {x0 x1 x2 x3 x4 x5 x6 x7 : Int} (h0 : ((x0 = (-(1 : Int))) ∨ ((x0 = x1) ∨ ((x0 = x2) ∨ ((x0 = x3) ∨ (x0 = x4)))))) (h1 : (x5 = (1 : Int))) (h2 : (((2 : Int) < x5) ∨ (x6 = x0))) (h3 : (x7 = x6)) : (((2 : Int) < (x5 + (1 : Int))) ∨ (x7 = x0)) := by omega
theorem q_4902 {x0 x1 x2 x3 : Int} (h0 : (((0 : Int) ≤ x0) ∧ ((x0 ≤ x1) ∧ (x1 ≤ (65536 : Int))))) (h1 : (((0 : Int) ≤ x2) ∧ ((x2 ≤ x3) ∧ (x3 ≤ (65536 : Int))))) (h2 : ((x2 + x0) ≤ (16384 : Int))) : (((0 : Int) ≤ x0) ∧ (x0 ≤ (16384 : Int))) := by omega
theorem q_4903 {x0 x1 x2 x3 x4 x5 x6 x7 x8 x9 x10 x11 x12 : Int} (h0 : (((0 : Int) ≤ x0) ∧ (x0 ≤ (1000000 : Int)))) (h1 : ((x0 = (10 : Int)) ∧ ((x1 = (256 : Int)) ∧ ((x2 = (53 : Int)) ∧ ((x3 = (13 : Int)) ∧ ((x4 = (3 : Int)) ∧ ((x5 = (2 : Int)) ∧ ((x6 = (3 : Int)) ∧ ((x7 = (3 : Int)) ∧ ((x8 = (3 : Int)) ∧ ((x9 = (3 : Int)) ∧ ((x10 = (3 : Int)) ∧ ((x11 = (3 : Int)) ∧ (x12 = (3 : Int))))))))))))))) : (((0 : Int) ≤ (0 : Int)) ∧ ((0 : Int) < x0)) := by omega
theorem q_4904 {x0 x1 x2 x3 x4 x5 x6 x7 x8 x9 x10 x11 x12 : Int} (h0 : (((0 : Int) ≤ x0) ∧ (x0 ≤ (1000000 : Int)))) (h1 : ((x0 = (10 : Int)) ∧ ((x1 = (256 : Int)) ∧ ((x2 = (53 : Int)) ∧ ((x3 = (13 : Int)) ∧ ((x4 = (3 : Int)) ∧ ((x5 = (2 : Int)) ∧ ((x6 = (3 : Int)) ∧ ((x7 = (3 : Int)) ∧ ((x8 = (3 : Int)) ∧ ((x9 = (3 : Int)) ∧ ((x10 = (3 : Int)) ∧ ((x11 = (3 : Int)) ∧ (x12 = (3 : Int))))))))))))))) : (((0 : Int) ≤ (1 : Int)) ∧ ((1 : Int) < x0)) := by omega
theorem q_4905 {x0 : Int} : (((0 : Int) = x0) ∨ ((0 : Int) ≤ (0 : Int))) := by omega
theorem q_4906 {x0 x1 x2 x3 x4 x5 x6 x7 x8 x9 x10 x11 x12 : Int} (h0 : (((0 : Int) ≤ x0) ∧ (x0 ≤ (1000000 : Int)))) (h1 : ((x0 = (10 : Int)) ∧ ((x1 = (256 : Int)) ∧ ((x2 = (53 : Int)) ∧ ((x3 = (13 : Int)) ∧ ((x4 = (3 : Int)) ∧ ((x5 = (2 : Int)) ∧ ((x6 = (3 : Int)) ∧ ((x7 = (3 : Int)) ∧ ((x8 = (3 : Int)) ∧ ((x9 = (3 : Int)) ∧ ((x10 = (3 : Int)) ∧ ((x11 = (3 : Int)) ∧ (x12 = (3 : Int))))))))))))))) : (((0 : Int) ≤ (7 : Int)) ∧ ((7 : Int) < x0)) := by omega
theorem q_4907 {x0 x1 x2 x3 : Int} (h0 : (((0 : Int) ≤ x0) ∧ ((x0 ≤ x1) ∧ (x1 ≤ (65536 : Int))))) (h1 : (((0 : Int) ≤ x2) ∧ (x2 ≤ x0))) (h2 : (((1 : Int) ≤ x3) ∧ (x3 ≤ (65536 : Int)))) : (inr (x2 + x3)) := by omega
theorem q_4908 {x0 x1 : Int} (h0 : ((3 : Int) ≤ x0)) (h1 : (x1 = x0)) : ((3 : Int) ≤ x1) := by omega
theorem q_4909 {x0 x1 x2 x3 x4 x5 : Int} (h0 : (((0 : Int) ≤ x0) ∧ ((x0 ≤ x1) ∧ (x1 ≤ (65536 : Int))))) (h1 : (x2 = (x0 + x3))) (h2 : ((x4 ≤ x5) ∧ ((x5 ≤ x3) ∧ ((x5 = x3) ∨ ((x4 + (1 : Int)) ≤ x5))))) (h3 : (((0 : Int) ≤ x4) ∧ (x4 ≤ x3))) : (((0 : Int) ≤ (x0 + x4)) ∧ (((x0 + x4) ≤ (x0 + x5)) ∧ ((x0 + x5) ≤ x2))) := by omega
theorem q_4910 {x0 x1 x2 : Int} (h0 : (((x0 < x1) ∧ (x2 = (0 : Int))) ∨ ((x1 ≤ x0) ∧ (x2 = (1 : Int))))) : (((0 : Int) ≤ x2) ∧ (x2 ≤ (1 : Int))) := by omega
theorem q_4911 {x0 x1 x2 x3 x4 : Int} (h0 : (((0 : Int) ≤ x0) ∧ ((x0 ≤ x1) ∧ (x1 ≤ (65536 : Int))))) (h1 : ((x0 + x2) ≤ (16384 : Int))) (h2 : ((x3 ≤ x4) ∧ ((x4 ≤ x2) ∧ ((x4 = x2) ∨ ((x3 + (1 : Int)) ≤ x4))))) (h3 : (((0 : Int) ≤ x3) ∧ (x3 ≤ x2))) : (inr (x0 + x4)) := by omega
theorem q_4912 {x0 x1 x2 x3 : Int} (h0 : (((0 : Int) ≤ x0) ∧ ((x0 ≤ x1) ∧ (x1 ≤ (65536 : Int))))) (h1 : ((x0 + x2) ≤ (16384 : Int))) (h2 : (((0 : Int) ≤ x3) ∧ (x3 ≤ x2))) : (inr (x0 + x3)) := by omega
theorem q_4913 {x0 x1 x2 : Int} (h0 : ((x0 ≤ x1) ∧ ((x1 ≤ x2) ∧ ((x1 = x2) ∨ ((x0 + (1 : Int)) ≤ x1))))) (h1 : (((0 : Int) ≤ x0) ∧ (x0 ≤ x2))) : (((0 : Int) ≤ x1) ∧ (x1 ≤ x2)) := by omega
theorem q_4914 {x0 x1 x2 x3 : Int} (h0 : (((0 : Int) ≤ x0) ∧ ((x0 ≤ x1) ∧ (x1 ≤ (65536 : Int))))) (h1 : ((x2 ≤ x3) ∧ ((x3 ≤ x0) ∧ ((x3 = x0) ∨ ((x2 + (1 : Int)) ≤ x3))))) (h2 : (((0 : Int) ≤ x2) ∧ (x2 ≤ x0))) : (inr x3) := by omega
theorem q_4915 {x0 x1 : Int} (h0 : (x0 ≠ x1)) : ((((0 : Int) = (1 : Int)) ∧ (x0 = x1)) ∨ (((0 : Int) = (0 : Int)) ∧ (x0 ≠ x1))) := by omega
theorem q_4916 {x0 x1 : Int} (h0 : (x0 = x1)) : ((((1 : Int) = (1 : Int)) ∧ (x0 = x1)) ∨ (((1 : Int) = (0 : Int)) ∧ (x0 ≠ x1))) := by omega
theorem q_4917 {x0 x1 x2 : Int} (h0 : (x0 = (0 : Int))) : ((x1 < x2) ∨ (x0 = (0 : Int))) := by omega
theorem q_4918 {x0 x1 x2 : Int} (h0 : (x0 < x1)) : ((x0 < x1) ∨ (x2 = (0 : Int))) := by omega
theorem q_4919 : ((4 : Int) = (4 : Int)) := by omega
theorem q_4920 {x0 x1 : Int} (h0 : (((0 : Int) ≤ x0) ∧ (x0 ≤ (1000000 : Int)))) (h1 : (x0 = (13 : Int))) (h2 : (x1 = (13 : Int))) : (((0 : Int) ≤ x0) ∧ (((0 : Int) ≤ (0 : Int)) ∧ (((0 : Int) ≤ (0 : Int)) ∧ ((((0 : Int) + x0) ≤ x1) ∧ (((0 : Int) + x0) ≤ x0))))) := by omega
theorem q_4921 {x0 : Int} (h0 : (x0 < (0 : Int))) : ((((0 : Int) = (1 : Int)) ∧ (((0 : Int) ≤ x0) ∧ (x0 ≤ (3 : Int)))) ∨ (((0 : Int) = (0 : Int)) ∧ ((x0 < (0 : Int)) ∨ ((3 : Int) < x0)))) := by omega
theorem q_4922 {x0 : Int} (h0 : ((3 : Int) < x0)) : ((((0 : Int) = (1 : Int)) ∧ (((0 : Int) ≤ x0) ∧ (x0 ≤ (3 : Int)))) ∨ (((0 : Int) = (0 : Int)) ∧ ((x0 < (0 : Int)) ∨ ((3 : Int) < x0)))) := by omega
theorem q_4923 {x0 : Int} (h0 : ((0 : Int) ≤ x0)) (h1 : (x0 ≤ (3 : Int))) : ((((1 : Int) = (1 : Int)) ∧ (((0 : Int) ≤ x0) ∧ (x0 ≤ (3 : Int)))) ∨ (((1 : Int) = (0 : Int)) ∧ ((x0 < (0 : Int)) ∨ ((3 : Int) < x0)))) := by omega
theorem q_4924 {x0 : Int} (h0 : (x0 < (0 : Int))) : ((((0 : Int) = (1 : Int)) ∧ (((0 : Int) ≤ x0) ∧ (x0 ≤ (9 : Int)))) ∨ (((0 : Int) = (0 : Int)) ∧ ((x0 < (0 : Int)) ∨ ((9 : Int) < x0)))) := by omega
theorem q_4925 {x0 : Int} (h0 : ((9 : Int) < x0)) : ((((0 : Int) = (1 : Int)) ∧ (((0 : Int) ≤ x0) ∧ (x0 ≤ (9 : Int)))) ∨ (((0 : Int) = (0 : Int)) ∧ ((x0 < (0 : Int)) ∨ ((9 : Int) < x0)))) := by omega
theorem q_4926 {x0 : Int} (h0 : ((0 : Int) ≤ x0)) (h1 : (x0 ≤ (9 : Int))) : ((((1 : Int) = (1 : Int)) ∧ (((0 : Int) ≤ x0) ∧ (x0 ≤ (9 : Int)))) ∨ (((1 : Int) = (0 : Int)) ∧ ((x0 < (0 : Int)) ∨ ((9 : Int) < x0)))) := by omega
theorem q_4927 {x0 x1 x2 x3 x4 : Int} (h0 : (x0 = (0 : Int))) (h1 : (x1 < (0 : Int))) (h2 : ((x2 = (0 : Int)) ∧ (x3 = (3 : Int)))) : (((x0 = (3 : Int)) ∧ ((((0 : Int) = (1 : Int)) ∧ (x4 = (64 : Int))) ∨ (((0 : Int) = (0 : Int)) ∧ (x4 ≠ (64 : Int))))) ∨ ((x0 ≠ (3 : Int)) ∧ ((((0 : Int) = (1 : Int)) ∧ ((x2 ≤ x1) ∧ (x1 ≤ x3))) ∨ (((0 : Int) = (0 : Int)) ∧ ((x1 < x2) ∨ (x3 < x1)))))) := by omega
theorem q_4928 {x0 x1 x2 x3 x4 : Int} (h0 : (x0 = (0 : Int))) (h1 : ((3 : Int) < x1)) (h2 : ((x2 = (0 : Int)) ∧ (x3 = (3 : Int)))) : (((x0 = (3 : Int)) ∧ ((((0 : Int) = (1 : Int)) ∧ (x4 = (64 : Int))) ∨ (((0 : Int) = (0 : Int)) ∧ (x4 ≠ (64 : Int))))) ∨ ((x0 ≠ (3 : Int)) ∧ ((((0 : Int) = (1 : Int)) ∧ ((x2 ≤ x1) ∧ (x1 ≤ x3))) ∨ (((0 : Int) = (0 : Int)) ∧ ((x1 < x2) ∨ (x3 < x1)))))) := by omega
theorem q_4929 {x0 x1 x2 x3 x4 : Int} (h0 : (x0 = (0 : Int))) (h1 : ((0 : Int) ≤ x1)) (h2 : (x1 ≤ (3 : Int))) (h3 : ((x2 = (0 : Int)) ∧ (x3 = (3 : Int)))) : (((x0 = (3 : Int)) ∧ ((((1 : Int) = (1 : Int)) ∧ (x4 = (64 : Int))) ∨ (((1 : Int) = (0 : Int)) ∧ (x4 ≠ (64 : Int))))) ∨ ((x0 ≠ (3 : Int)) ∧ ((((1 : Int) = (1 : Int)) ∧ ((x2 ≤ x1) ∧ (x1 ≤ x3))) ∨ (((1 : Int) = (0 : Int)) ∧ ((x1 < x2) ∨ (x3 < x1)))))) := by omega
theorem q_4930 {x0 x1 x2 x3 x4 : Int} (h0 : (x0 = (1 : Int))) (h1 : (x1 < (3 : Int))) (h2 : ((x2 = (3 : Int)) ∧ (x3 = (8 : Int)))) : (((x0 = (3 : Int)) ∧ ((((0 : Int) = (1 : Int)) ∧ (x4 = (64 : Int))) ∨ (((0 : Int) = (0 : Int)) ∧ (x4 ≠ (64 : Int))))) ∨ ((x0 ≠ (3 : Int)) ∧ ((((0 : Int) = (1 : Int)) ∧ ((x2 ≤ x1) ∧ (x1 ≤ x3))) ∨ (((0 : Int) = (0 : Int)) ∧ ((x1 < x2) ∨ (x3 < x1)))))) := by omega
theorem q_4931 {x0 x1 x2 x3 x4 : Int} (h0 : (x0 = (1 : Int))) (h1 : ((8 : Int) < x1)) (h2 : ((x2 = (3 : Int)) ∧ (x3 = (8 : Int)))) : (((x0 = (3 : Int)) ∧ ((((0 : Int) = (1 : Int)) ∧ (x4 = (64 : Int))) ∨ (((0 : Int) = (0 : Int)) ∧ (x4 ≠ (64 : Int))))) ∨ ((x0 ≠ (3 : Int)) ∧ ((((0 : Int) = (1 : Int)) ∧ ((x2 ≤ x1) ∧ (x1 ≤ x3))) ∨ (((0 : Int) = (0 : Int)) ∧ ((x1 < x2) ∨ (x3 < x1)))))) := by omega
theorem q_4932 {x0 x1 x2 x3 x4 : Int} (h0 : (x0 = (1 : Int))) (h1 : ((3 : Int) ≤ x1)) (h2 : (x1 ≤ (8 : Int))) (h3 : ((x2 = (3 : Int)) ∧ (x3 = (8 : Int)))) : (((x0 = (3 : Int)) ∧ ((((1 : Int) = (1 : Int)) ∧ (x4 = (64 : Int))) ∨ (((1 : Int) = (0 : Int)) ∧ (x4 ≠ (64 : Int))))) ∨ ((x0 ≠ (3 : Int)) ∧ ((((1 : Int) = (1 : Int)) ∧ ((x2 ≤ x1) ∧ (x1 ≤ x3))) ∨ (((1 : Int) = (0 : Int)) ∧ ((x1 < x2) ∨ (x3 < x1)))))) := by omega
theorem q_4933 {x0 x1 x2 x3 x4 : Int} (h0 : (x0 = (2 : Int))) (h1 : (x1 < (1 : Int))) (h2 : ((x2 = (1 : Int)) ∧ (x3 = (65536 : Int)))) : (((x0 = (3 : Int)) ∧ ((((0 : Int) = (1 : Int)) ∧ (x4 = (64 : Int))) ∨ (((0 : Int) = (0 : Int)) ∧ (x4 ≠ (64 : Int))))) ∨ ((x0 ≠ (3 : Int)) ∧ ((((0 : Int) = (1 : Int)) ∧ ((x2 ≤ x1) ∧ (x1 ≤ x3))) ∨ (((0 : Int) = (0 : Int)) ∧ ((x1 < x2) ∨ (x3 < x1)))))) := by omega
theorem q_4934 {x0 x1 x2 x3 x4 : Int} (h0 : (x0 = (2 : Int))) (h1 : ((65536 : Int) < x1)) (h2 : ((x2 = (1 : Int)) ∧ (x3 = (65536 : Int)))) : (((x0 = (3 : Int)) ∧ ((((0 : Int) = (1 : Int)) ∧ (x4 = (64 : Int))) ∨ (((0 : Int) = (0 : Int)) ∧ (x4 ≠ (64 : Int))))) ∨ ((x0 ≠ (3 : Int)) ∧ ((((0 : Int) = (1 : Int)) ∧ ((x2 ≤ x1) ∧ (x1 ≤ x3))) ∨ (((0 : Int) = (0 : Int)) ∧ ((x1 < x2) ∨ (x3 < x1)))))) := by omega
theorem q_4935 {x0 x1 x2 x3 x4 : Int} (h0 : (x0 = (2 : Int))) (h1 : ((1 : Int) ≤ x1)) (h2 : (x1 ≤ (65536 : Int))) (h3 : ((x2 = (1 : Int)) ∧ (x3 = (65536 : Int)))) : (((x0 = (3 : Int)) ∧ ((((1 : Int) = (1 : Int)) ∧ (x4 = (64 : Int))) ∨ (((1 : Int) = (0 : Int)) ∧ (x4 ≠ (64 : Int))))) ∨ ((x0 ≠ (3 : Int)) ∧ ((((1 : Int) = (1 : Int)) ∧ ((x2 ≤ x1) ∧ (x1 ≤ x3))) ∨ (((1 : Int) = (0 : Int)) ∧ ((x1 < x2) ∨ (x3 < x1)))))) := by omega
theorem q_4936 {x0 x1 x2 x3 x4 x5 : Int} (h0 : (x0 = (3 : Int))) (h1 : (((x1 = (1 : Int)) ∧ (x2 = (64 : Int))) ∨ ((x1 = (0 : Int)) ∧ (x2 ≠ (64 : Int))))) : (((x0 = (3 : Int)) ∧ (((x1 = (1 : Int)) ∧ (x2 = (64 : Int))) ∨ ((x1 = (0 : Int)) ∧ (x2 ≠ (64 : Int))))) ∨ ((x0 ≠ (3 : Int)) ∧ (((x1 = (1 : Int)) ∧ ((x3 ≤ x4) ∧ (x4 ≤ x5))) ∨ ((x1 = (0 : Int)) ∧ ((x4 < x3) ∨ (x5 < x4)))))) := by omega
theorem q_4937 {x0 x1 x2 x3 x4 : Int} (h0 : (x0 = (4 : Int))) (h1 : (x1 < (4 : Int))) (h2 : ((x2 = (4 : Int)) ∧ (x3 = (7 : Int)))) : (((x0 = (3 : Int)) ∧ ((((0 : Int) = (1 : Int)) ∧ (x4 = (64 : Int))) ∨ (((0 : Int) = (0 : Int)) ∧ (x4 ≠ (64 : Int))))) ∨ ((x0 ≠ (3 : Int)) ∧ ((((0 : Int) = (1 : Int)) ∧ ((x2 ≤ x1) ∧ (x1 ≤ x3))) ∨ (((0 : Int) = (0 : Int)) ∧ ((x1 < x2) ∨ (x3 < x1)))))) := by omega
theorem q_4938 {x0 x1 x2 x3 x4 : Int} (h0 : (x0 = (4 : Int))) (h1 : ((7 : Int) < x1)) (h2 : ((x2 = (4 : Int)) ∧ (x3 = (7 : Int)))) : (((x0 = (3 : Int)) ∧ ((((0 : Int) = (1 : Int)) ∧ (x4 = (64 : Int))) ∨ (((0 : Int) = (0 : Int)) ∧ (x4 ≠ (64 : Int))))) ∨ ((x0 ≠ (3 : Int)) ∧ ((((0 : Int) = (1 : Int)) ∧ ((x2 ≤ x1) ∧ (x1 ≤ x3))) ∨ (((0 : Int) = (0 : Int)) ∧ ((x1 < x2) ∨ (x3 < x1)))))) := by omega
theorem q_4939 {x0 x1 x2 x3 x4 : Int} (h0 : (x0 = (4 : Int))) (h1 : ((4 : Int) ≤ x1)) (h2 : (x1 ≤ (7 : Int))) (h3 : ((x2 = (4 : Int)) ∧ (x3 = (7 : Int)))) : (((x0 = (3 : Int)) ∧ ((((1 : Int) = (1 : Int)) ∧ (x4 = (64 : Int))) ∨ (((1 : Int) = (0 : Int)) ∧ (x4 ≠ (64 : Int))))) ∨ ((x0 ≠ (3 : Int)) ∧ ((((1 : Int) = (1 : Int)) ∧ ((x2 ≤ x1) ∧ (x1 ≤ x3))) ∨ (((1 : Int) = (0 : Int)) ∧ ((x1 < x2) ∨ (x3 < x1)))))) := by omega
theorem q_4940 {x0 x1 x2 x3 x4 : Int} (h0 : (x0 = (5 : Int))) (h1 : (inr x1)) (h2 : ((x2 = (-(2147483648 : Int))) ∧ (x3 = (2147483647 : Int)))) : (((x0 = (3 : Int)) ∧ ((((1 : Int) = (1 : Int)) ∧ (x4 = (64 : Int))) ∨ (((1 : Int) = (0 : Int)) ∧ (x4 ≠ (64 : Int))))) ∨ ((x0 ≠ (3 : Int)) ∧ ((((1 : Int) = (1 : Int)) ∧ ((x2 ≤ x1) ∧ (x1 ≤ x3))) ∨ (((1 : Int) = (0 : Int)) ∧ ((x1 < x2) ∨ (x3 < x1)))))) := by omega
theorem q_4941 {x0 x1 x2 x3 x4 : Int} (h0 : (x0 = (6 : Int))) (h1 : (x1 < (0 : Int))) (h2 : ((x2 = (0 : Int)) ∧ (x3 = (255 : Int)))) : (((x0 = (3 : Int)) ∧ ((((0 : Int) = (1 : Int)) ∧ (x4 = (64 : Int))) ∨ (((0 : Int) = (0 : Int)) ∧ (x4 ≠ (64 : Int))))) ∨ ((x0 ≠ (3 : Int)) ∧ ((((0 : Int) = (1 : Int)) ∧ ((x2 ≤ x1) ∧ (x1 ≤ x3))) ∨ (((0 : Int) = (0 : Int)) ∧ ((x1 < x2) ∨ (x3 < x1)))))) := by omega
theorem q_4942 {x0 x1 x2 x3 x4 : Int} (h0 : (x0 = (6 : Int))) (h1 : ((255 : Int) < x1)) (h2 : ((x2 = (0 : Int)) ∧ (x3 = (255 : Int)))) : (((x0 = (3 : Int)) ∧ ((((0 : Int) = (1 : Int)) ∧ (x4 = (64 : Int))) ∨ (((0 : Int) = (0 : Int)) ∧ (x4 ≠ (64 : Int))))) ∨ ((x0 ≠ (3 : Int)) ∧ ((((0 : Int) = (1 : Int)) ∧ ((x2 ≤ x1) ∧ (x1 ≤ x3))) ∨ (((0 : Int) = (0 : Int)) ∧ ((x1 < x2) ∨ (x3 < x1)))))) := by omega
theorem q_4943 {x0 x1 x2 x3 x4 : Int} (h0 : (x0 = (6 : Int))) (h1 : ((0 : Int) ≤ x1)) (h2 : (x1 ≤ (255 : Int))) (h3 : ((x2 = (0 : Int)) ∧ (x3 = (255 : Int)))) : (((x0 = (3 : Int)) ∧ ((((1 : Int) = (1 : Int)) ∧ (x4 = (64 : Int))) ∨ (((1 : Int) = (0 : Int)) ∧ (x4 ≠ (64 : Int))))) ∨ ((x0 ≠ (3 : Int)) ∧ ((((1 : Int) = (1 : Int)) ∧ ((x2 ≤ x1) ∧ (x1 ≤ x3))) ∨ (((1 : Int) = (0 : Int)) ∧ ((x1 < x2) ∨ (x3 < x1)))))) := by omega
theorem q_4944 {x0 x1 x2 x3 x4 : Int} (h0 : (x0 = (7 : Int))) (h1 : (x1 < (0 : Int))) (h2 : ((x2 = (0 : Int)) ∧ (x3 = (15 : Int)))) : (((x0 = (3 : Int)) ∧ ((((0 : Int) = (1 : Int)) ∧ (x4 = (64 : Int))) ∨ (((0 : Int) = (0 : Int)) ∧ (x4 ≠ (64 : Int))))) ∨ ((x0 ≠ (3 : Int)) ∧ ((((0 : Int) = (1 : Int)) ∧ ((x2 ≤ x1) ∧ (x1 ≤ x3))) ∨ (((0 : Int) = (0 : Int)) ∧ ((x1 < x2) ∨ (x3 < x1)))))) := by omega
theorem q_4945 {x0 x1 x2 x3 x4 : Int} (h0 : (x0 = (7 : Int))) (h1 : ((15 : Int) < x1)) (h2 : ((x2 = (0 : Int)) ∧ (x3 = (15 : Int)))) : (((x0 = (3 : Int)) ∧ ((((0 : Int) = (1 : Int)) ∧ (x4 = (64 : Int))) ∨ (((0 : Int) = (0 : Int)) ∧ (x4 ≠ (64 : Int))))) ∨ ((x0 ≠ (3 : Int)) ∧ ((((0 : Int) = (1 : Int)) ∧ ((x2 ≤ x1) ∧ (x1 ≤ x3))) ∨ (((0 : Int) = (0 : Int)) ∧ ((x1 < x2) ∨ (x3 < x1)))))) := by omega
theorem q_4946 {x0 x1 x2 x3 x4 : Int} (h0 : (x0 = (7 : Int))) (h1 : ((0 : Int) ≤ x1)) (h2 : (x1 ≤ (15 : Int))) (h3 : ((x2 = (0 : Int)) ∧ (x3 = (15 : Int)))) : (((x0 = (3 : Int)) ∧ ((((1 : Int) = (1 : Int)) ∧ (x4 = (64 : Int))) ∨ (((1 : Int) = (0 : Int)) ∧ (x4 ≠ (64 : Int))))) ∨ ((x0 ≠ (3 : Int)) ∧ ((((1 : Int) = (1 : Int)) ∧ ((x2 ≤ x1) ∧ (x1 ≤ x3))) ∨ (((1 : Int) = (0 : Int)) ∧ ((x1 < x2) ∨ (x3 < x1)))))) := by omega
theorem q_4947 {x0 x1 x2 x3 x4 : Int} (h0 : (x0 = (8 : Int))) (h1 : (x1 < (0 : Int))) (h2 : ((x2 = (0 : Int)) ∧ (x3 = (11 : Int)))) : (((x0 = (3 : Int)) ∧ ((((0 : Int) = (1 : Int)) ∧ (x4 = (64 : Int))) ∨ (((0 : Int) = (0 : Int)) ∧ (x4 ≠ (64 : Int))))) ∨ ((x0 ≠ (3 : Int)) ∧ ((((0 : Int) = (1 : Int)) ∧ ((x2 ≤ x1) ∧ (x1 ≤ x3))) ∨ (((0 : Int) = (0 : Int)) ∧ ((x1 < x2) ∨ (x3 < x1)))))) := by omega
theorem q_4948 {x0 x1 x2 x3 x4 : Int} (h0 : (x0 = (8 : Int))) (h1 : ((11 : Int) < x1)) (h2 : ((x2 = (0 : Int)) ∧ (x3 = (11 : Int)))) : (((x0 = (3 : Int)) ∧ ((((0 : Int) = (1 : Int)) ∧ (x4 = (64 : Int))) ∨ (((0 : Int) = (0 : Int)) ∧ (x4 ≠ (64 : Int))))) ∨ ((x0 ≠ (3 : Int)) ∧ ((((0 : Int) = (1 : Int)) ∧ ((x2 ≤ x1) ∧ (x1 ≤ x3))) ∨ (((0 : Int) = (0 : Int)) ∧ ((x1 < x2) ∨ (x3 < x1)))))) := by omega
theorem q_4949 {x0 x1 x2 x3 x4 : Int} (h0 : (x0 = (8 : Int))) (h1 : ((0 : Int) ≤ x1)) (h2 : (x1 ≤ (11 : Int))) (h3 : ((x2 = (0 : Int)) ∧ (x3 = (11 : Int)))) : (((x0 = (3 : Int)) ∧ ((((1 : Int) = (1 : Int)) ∧ (x4 = (64 : Int))) ∨ (((1 : Int) = (0 : Int)) ∧ (x4 ≠ (64 : Int))))) ∨ ((x0 ≠ (3 : Int)) ∧ ((((1 : Int) = (1 : Int)) ∧ ((x2 ≤ x1) ∧ (x1 ≤ x3))) ∨ (((1 : Int) = (0 : Int)) ∧ ((x1 < x2) ∨ (x3 < x1)))))) := by omega
theorem q_4950 {x0 : Int} (h0 : (x0 = (0 : Int))) : ((((1 : Int) = (1 : Int)) ∧ (((0 : Int) ≤ x0) ∧ (x0 ≤ (3 : Int)))) ∨ (((1 : Int) = (0 : Int)) ∧ ((x0 < (0 : Int)) ∨ ((3 : Int) < x0)))) := by omega
theorem q_4951 {x0 : Int} (h0 : (x0 = (1 : Int))) : ((((1 : Int) = (1 : Int)) ∧ (((0 : Int) ≤ x0) ∧ (x0 ≤ (3 : Int)))) ∨ (((1 : Int) = (0 : Int)) ∧ ((x0 < (0 : Int)) ∨ ((3 : Int) < x0)))) := by omega
theorem q_4952 {x0 : Int} (h0 : (x0 = (2 : Int))) : ((((1 : Int) = (1 : Int)) ∧ (((0 : Int) ≤ x0) ∧ (x0 ≤ (3 : Int)))) ∨ (((1 : Int) = (0 : Int)) ∧ ((x0 < (0 : Int)) ∨ ((3 : Int) < x0)))) := by omega
theorem q_4953 {x0 : Int} (h0 : (x0 = (3 : Int))) : ((((1 : Int) = (1 : Int)) ∧ (((0 : Int) ≤ x0) ∧ (x0 ≤ (3 : Int)))) ∨ (((1 : Int) = (0 : Int)) ∧ ((x0 < (0 : Int)) ∨ ((3 : Int) < x0)))) := by omega
theorem q_4954 {x0 : Int} (h0 : (x0 ≠ (0 : Int))) (h1 : (x0 ≠ (1 : Int))) : ((((0 : Int) = (1 : Int)) ∧ ((x0 = (0 : Int)) ∨ (x0 = (1 : Int)))) ∨ (((0 : Int) = (0 : Int)) ∧ ((x0 ≠ (0 : Int)) ∧ (x0 ≠ (1 : Int))))) := by omega
theorem q_4955 {x0 : Int} (h0 : (x0 = (1 : Int))) : ((((1 : Int) = (1 : Int)) ∧ ((x0 = (0 : Int)) ∨ (x0 = (1 : Int)))) ∨ (((1 : Int) = (0 : Int)) ∧ ((x0 ≠ (0 : Int)) ∧ (x0 ≠ (1 : Int))))) := by omega
theorem q_4956 {x0 : Int} (h0 : (x0 = (0 : Int))) : ((((1 : Int) = (1 : Int)) ∧ ((x0 = (0 : Int)) ∨ (x0 = (1 : Int)))) ∨ (((1 : Int) = (0 : Int)) ∧ ((x0 ≠ (0 : Int)) ∧ (x0 ≠ (1 : Int))))) := by omega
theorem q_4957 {x0 : Int} (h0 : (((0 : Int) ≤ x0) ∧ (x0 ≤ (1000000 : Int)))) (h1 : (x0 = (10 : Int))) : (((0 : Int) ≤ (7 : Int)) ∧ ((7 : Int) < x0)) := by omega
theorem q_4958 {x0 : Int} (h0 : (((0 : Int) ≤ x0) ∧ (x0 ≤ (1000000 : Int)))) (h1 : (x0 = (10 : Int))) : (((0 : Int) ≤ (8 : Int)) ∧ ((8 : Int) < x0)) := by omega
theorem q_4959 {x0 x1 x2 x3 : Int} (h0 : (inr x0)) (h1 : (((x1 < (131072 : Int)) ∧ (x2 = x1)) ∨ ((¬ (x1 < (131072 : Int))) ∧ (x2 = (131072 : Int))))) (h2 : (((x2 < x0) ∧ (x3 = x2)) ∨ ((¬ (x2 < x0)) ∧ (x3 = x0)))) (h3 : (((0 : Int) ≤ x1) ∧ (x1 ≤ (2097152 : Int)))) : (inr x3) := by omega
theorem q_4960 {x0 x1 x2 x3 x4 x5 x6 : Int} (h0 : (x0 = x1)) (h1 : (((x2 < x1) ∧ (x3 = x2)) ∨ ((¬ (x2 < x1)) ∧ (x3 = x1)))) (h2 : ((((1 : Int) < x3) ∧ (x4 = x3)) ∨ ((¬ ((1 : Int) < x3)) ∧ (x4 = (1 : Int))))) (h3 : (((1 : Int) ≤ x0) ∧ (x0 ≤ (65536 : Int)))) (h4 : ((x5 = (0 : Int)) ∨ (x4 = x6))) : (((1 : Int) ≤ x4) ∧ (x4 ≤ (65536 : Int))) := by omega
theorem q_4961 {x0 x1 x2 x3 x4 x5 : Int} (h0 : (inr x0)) (h1 : (((x1 < x0) ∧ (x2 = x1)) ∨ ((¬ (x1 < x0)) ∧ (x2 = x0)))) (h2 : ((((1 : Int) < x2) ∧ (x3 = x2)) ∨ ((¬ ((1 : Int) < x2)) ∧ (x3 = (1 : Int))))) (h3 : ((x4 = (0 : Int)) ∨ (x3 = x5))) : (inr x3) := by omega
theorem q_4962 {x0 x1 : Int} (h0 : (((0 : Int) ≤ x0) ∧ (x0 ≤ (16384 : Int)))) (h1 : (((0 : Int) ≤ (((x0 + x1) - (1 : Int)) / x1)) ∧ ((((x0 + x1) - (1 : Int)) / x1) ≤ (16384 : Int)))) : (inr (((22 : Int) + ((3 : Int) * (((x0 + x1) - (1 : Int)) / x1))) + x0)) := by omega
theorem q_4963 {x0 : Int} (h0 : (x0 = (0 : Int))) : (inr (((22 : Int) + ((3 : Int) * (1 : Int))) + x0)) := by omega
theorem q_4964 {x0 : Int} (h0 : (((0 : Int) ≤ x0) ∧ (x0 ≤ (8 : Int)))) : (((0 : Int) ≤ (0 : Int)) ∧ ((0 : Int) ≤ x0)) := by omega
theorem q_4965 {x0 x1 : Int} (h0 : (x0 < x1)) (h1 : (((0 : Int) ≤ x1) ∧ (x1 ≤ (8 : Int)))) (h2 : (((0 : Int) ≤ x0) ∧ (x0 ≤ x1))) : (inr (x0 + (1 : Int))) := by omega
theorem q_4966 {x0 : Int} : ((((0 : Int) ≤ x0) ∧ (x0 ≤ (3 : Int))) ∨ ((0 : Int) = (0 : Int))) := by omega
theorem q_4967 {x0 : Int} (h0 : (x0 = (0 : Int))) : ((((0 : Int) ≤ x0) ∧ (x0 ≤ (3 : Int))) ∨ ((1 : Int) = (0 : Int))) := by omega
theorem q_4968 {x0 : Int} (h0 : (x0 = (0 : Int))) : ((((0 : Int) ≤ x0) ∧ (x0 ≤ (3 : Int))) ∨ ((0 : Int) = (0 : Int))) := by omega
theorem q_4969 {x0 : Int} (h0 : (x0 = (1 : Int))) : ((((0 : Int) ≤ x0) ∧ (x0 ≤ (3 : Int))) ∨ ((1 : Int) = (0 : Int))) := by omega
theorem q_4970 {x0 : Int} (h0 : (x0 = (1 : Int))) : ((((0 : Int) ≤ x0) ∧ (x0 ≤ (3 : Int))) ∨ ((0 : Int) = (0 : Int))) := by omega
theorem q_4971 {x0 : Int} (h0 : (x0 = (2 : Int))) : ((((0 : Int) ≤ x0) ∧ (x0 ≤ (3 : Int))) ∨ ((1 : Int) = (0 : Int))) := by omega
theorem q_4972 {x0 : Int} (h0 : (x0 = (2 : Int))) : ((((0 : Int) ≤ x0) ∧ (x0 ≤ (3 : Int))) ∨ ((0 : Int) = (0 : Int))) := by omega
theorem q_4973 {x0 : Int} (h0 : (x0 = (3 : Int))) : ((((0 : Int) ≤ x0) ∧ (x0 ≤ (3 : Int))) ∨ ((1 : Int) = (0 : Int))) := by omega
theorem q_4974 {x0 : Int} (h0 : (x0 = (3 : Int))) : ((((0 : Int) ≤ x0) ∧ (x0 ≤ (3 : Int))) ∨ ((0 : Int) = (0 : Int))) := by omega
theorem q_4975 {x0 : Int} (h0 : ((1 : Int) ≤ x0)) (h1 : (x0 ≤ (8 : Int))) : (((0 : Int) ≤ x0) ∧ (x0 ≤ (8 : Int))) := by omega
theorem q_4976 {x0 x1 x2 : Int} (h0 : ((1 : Int) ≤ x0)) (h1 : (x0 ≤ x1)) : (((x0 * x2) < (0 : Int)) ∨ (((1 : Int) ≤ x0) ∧ (x0 ≤ (x1 - (0 : Int))))) := by omega
theorem q_4977 {x0 : Int} : ((((0 : Int) ≤ x0) ∧ (x0 ≤ (3 : Int))) ∨ ((-(1 : Int)) = (-(1 : Int)))) := by omega
theorem q_4978 {x0 x1 : Int} (h0 : (x0 = (0 : Int))) : ((((0 : Int) ≤ x0) ∧ (x0 ≤ (3 : Int))) ∨ (x1 = (-(1 : Int)))) := by omega
theorem q_4979 {x0 x1 : Int} (h0 : (x0 = (1 : Int))) : ((((0 : Int) ≤ x0) ∧ (x0 ≤ (3 : Int))) ∨ (x1 = (-(1 : Int)))) := by omega
theorem q_4980 {x0 x1 : Int} (h0 : (x0 = (2 : Int))) : ((((0 : Int) ≤ x0) ∧ (x0 ≤ (3 : Int))) ∨ (x1 = (-(1 : Int)))) := by omega
theorem q_4981 {x0 x1 : Int} (h0 : (x0 = (3 : Int))) : ((((0 : Int) ≤ x0) ∧ (x0 ≤ (3 : Int))) ∨ (x1 = (-(1 : Int)))) := by omega
theorem q_4982 {x0 : Int} (h0 : (x0 = (0 : Int))) : ((((0 : Int) ≤ x0) ∧ (x0 ≤ (3 : Int))) ∨ ((-(1 : Int)) = (-(1 : Int)))) := by omega
theorem q_4983 {x0 x1 : Int} (h0 : (x0 = (0 : Int))) : ((((0 : Int) ≤ x0) ∧ (x0 ≤ (3 : Int))) ∨ ((x1 % (256 : Int)) = (-(1 : Int)))) := by omega
theorem q_4984 {x0 : Int} (h0 : (x0 = (1 : Int))) : ((((0 : Int) ≤ x0) ∧ (x0 ≤ (3 : Int))) ∨ ((-(1 : Int)) = (-(1 : Int)))) := by omega
theorem q_4985 {x0 x1 : Int} (h0 : (x0 = (1 : Int))) : ((((0 : Int) ≤ x0) ∧ (x0 ≤ (3 : Int))) ∨ ((x1 % (256 : Int)) = (-(1 : Int)))) := by omega
theorem q_4986 {x0 : Int} (h0 : (x0 = (2 : Int))) : ((((0 : Int) ≤ x0) ∧ (x0 ≤ (3 : Int))) ∨ ((-(1 : Int)) = (-(1 : Int)))) := by omega
theorem q_4987 {x0 x1 : Int} (h0 : (x0 = (2 : Int))) : ((((0 : Int) ≤ x0) ∧ (x0 ≤ (3 : Int))) ∨ ((x1 % (256 : Int)) = (-(1 : Int)))) := by omega
theorem q_4988 {x0 : Int} (h0 : (x0 = (3 : Int))) : ((((0 : Int) ≤ x0) ∧ (x0 ≤ (3 : Int))) ∨ ((-(1 : Int)) = (-(1 : Int)))) := by omega
theorem q_4989 {x0 x1 : Int} (h0 : (x0 = (3 : Int))) : ((((0 : Int) ≤ x0) ∧ (x0 ≤ (3 : Int))) ∨ ((x1 % (256 : Int)) = (-(1 : Int)))) := by omega
theorem q_4990 {x0 x1 x2 x3 x4 : Int} (h0 : (((x0 < x1) ∧ (x2 = x0)) ∨ ((¬ (x0 < x1)) ∧ (x2 = x1)))) (h1 : (((0 : Int) ≤ x1) ∧ ((x1 ≤ x3) ∧ (x3 ≤ (65536 : Int))))) (h2 : (((0 : Int) ≤ x0) ∧ ((x0 ≤ x4) ∧ (x4 ≤ (65536 : Int))))) : (((0 : Int) ≤ (0 : Int)) ∧ ((0 : Int) ≤ x2)) := by omega
theorem q_4991 {x0 x1 x2 x3 x4 x5 : Int} (h0 : (((x0 < x1) ∧ (x2 = x0)) ∨ ((¬ (x0 < x1)) ∧ (x2 = x1)))) (h1 : (((0 : Int) ≤ x1) ∧ ((x1 ≤ x3) ∧ (x3 ≤ (65536 : Int))))) (h2 : (((0 : Int) ≤ x0) ∧ ((x0 ≤ x4) ∧ (x4 ≤ (65536 : Int))))) (h3 : (((0 : Int) ≤ x5) ∧ (x5 ≤ x2))) : (inr x2) := by omega
theorem q_4992 {x0 x1 : Int} (h0 : (x0 ≤ x1)) (h1 : (inr x1)) (h2 : (((0 : Int) ≤ x1) ∧ (x1 ≤ x0))) : (inr x0) := by omega
theorem q_4993 {x0 x1 x2 x3 x4 x5 : Int} (h0 : (x0 = (3 : Int))) : (((x0 = (0 : Int)) ∧ (x1 = x2)) ∨ (((x0 = (1 : Int)) ∧ (x1 = x3)) ∨ (((x0 = (2 : Int)) ∧ (x1 = x4)) ∨ (((x0 = (3 : Int)) ∧ (x1 = x1)) ∨ (((x0 < (0 : Int)) ∨ ((3 : Int) < x0)) ∧ (x1 = x5)))))) := by omega
theorem q_4994 {x0 x1 x2 x3 x4 x5 : Int} (h0 : (x0 = (2 : Int))) : (((x0 = (0 : Int)) ∧ (x1 = x2)) ∨ (((x0 = (1 : Int)) ∧ (x1 = x3)) ∨ (((x0 = (2 : Int)) ∧ (x1 = x1)) ∨ (((x0 = (3 : Int)) ∧ (x1 = x4)) ∨ (((x0 < (0 : Int)) ∨ ((3 : Int) < x0)) ∧ (x1 = x5)))))) := by omega
theorem q_4995 {x0 x1 x2 x3 x4 x5 : Int} (h0 : (x0 = (1 : Int))) : (((x0 = (0 : Int)) ∧ (x1 = x2)) ∨ (((x0 = (1 : Int)) ∧ (x1 = x1)) ∨ (((x0 = (2 : Int)) ∧ (x1 = x3)) ∨ (((x0 = (3 : Int)) ∧ (x1 = x4)) ∨ (((x0 < (0 : Int)) ∨ ((3 : Int) < x0)) ∧ (x1 = x5)))))) := by omega
theorem q_4996 {x0 x1 x2 x3 x4 x5 : Int} (h0 : (x0 = (0 : Int))) : (((x0 = (0 : Int)) ∧ (x1 = x1)) ∨ (((x0 = (1 : Int)) ∧ (x1 = x2)) ∨ (((x0 = (2 : Int)) ∧ (x1 = x3)) ∨ (((x0 = (3 : Int)) ∧ (x1 = x4)) ∨ (((x0 < (0 : Int)) ∨ ((3 : Int) < x0)) ∧ (x1 = x5)))))) := by omega
theorem q_4997 {x0 x1 x2 : Int} (h0 : (x0 < x1)) : ((((0 : Int) = (1 : Int)) ∧ ((x1 ≤ x0) ∧ (x0 ≤ x2))) ∨ (((0 : Int) = (0 : Int)) ∧ ((x0 < x1) ∨ (x2 < x0)))) := by omega
theorem q_4998 {x0 x1 x2 : Int} (h0 : (x0 < x1)) : ((((0 : Int) = (1 : Int)) ∧ ((x2 ≤ x1) ∧ (x1 ≤ x0))) ∨ (((0 : Int) = (0 : Int)) ∧ ((x1 < x2) ∨ (x0 < x1)))) := by omega
theorem q_4999 {x0 x1 x2 : Int} (h0 : (x0 ≤ x1)) (h1 : (x1 ≤ x2)) : ((((1 : Int) = (1 : Int)) ∧ ((x0 ≤ x1) ∧ (x1 ≤ x2))) ∨ (((1 : Int) = (0 : Int)) ∧ ((x1 < x0) ∨ (x2 < x1)))) := by omega
theorem q_5000 {x0 x1 x2 : Int} (h0 : (x0 ≠ (0 : Int))) (h1 : (x0 ≠ (1 : Int))) : (((x0 = (0 : Int)) ∧ ((-(1 : Int)) = x1)) ∨ (((x0 = (1 : Int)) ∧ ((-(1 : Int)) = x2)) ∨ ((x0 ≠ (0 : Int)) ∧ ((x0 ≠ (1 : Int)) ∧ ((-(1 : Int)) = (-(1 : Int))))))) := by omega
theorem q_5001 {x0 x1 x2 : Int} (h0 : (x0 = (1 : Int))) : (((x0 = (0 : Int)) ∧ (x1 = x2)) ∨ (((x0 = (1 : Int)) ∧ (x1 = x1)) ∨ ((x0 ≠ (0 : Int)) ∧ ((x0 ≠ (1 : Int)) ∧ (x1 = (-(1 : Int))))))) := by omega
theorem q_5002 {x0 x1 x2 : Int} (h0 : (x0 = (0 : Int))) : (((x0 = (0 : Int)) ∧ (x1 = x1)) ∨ (((x0 = (1 : Int)) ∧ (x1 = x2)) ∨ ((x0 ≠ (0 : Int)) ∧ ((x0 ≠ (1 : Int)) ∧ (x1 = (-(1 : Int))))))) := by omega
theorem q_5003 {x0 x1 : Int} (h0 : (x0 = x1)) (h1 : (((0 : Int) ≤ x1) ∧ (x1 ≤ (65536 : Int)))) : (((0 : Int) ≤ (0 : Int)) ∧ ((0 : Int) ≤ x0)) := by omega
theorem q_5004 {x0 x1 x2 : Int} (h0 : (x0 = x1)) (h1 : (x0 = x2)) (h2 : (((0 : Int) ≤ x2) ∧ (x2 ≤ (65536 : Int)))) : (((0 : Int) ≤ x1) ∧ (x1 ≤ (65536 : Int))) := by omega
theorem q_5005 {x0 x1 x2 x3 x4 : Int} (h0 : (x0 < x1)) (h1 : (((0 : Int) ≤ x2) ∧ ((x2 ≤ (3 : Int)) ∧ (((0 : Int) ≤ x3) ∧ (x3 ≤ (4 : Int)))))) (h2 : (((0 : Int) ≤ x0) ∧ (x0 ≤ x4))) (h3 : (((0 : Int) ≤ x1) ∧ (x1 ≤ (65536 : Int)))) : (((0 : Int) ≤ (((65536 : Int) * x2) + x0)) ∧ ((((65536 : Int) * x2) + x0) < ((262144 : Nat) : Int))) := by omega
theorem q_5006 : (((0 : Int) ≤ (24 : Int)) ∧ ((24 : Int) ≤ (255 : Int))) := by omega
theorem q_5007 : (((0 : Int) ≤ (77 : Int)) ∧ ((77 : Int) ≤ (255 : Int))) := by omega
theorem q_5008 : (((0 : Int) ≤ (34 : Int)) ∧ ((34 : Int) ≤ (255 : Int))) := by omega
theorem q_5009 : (((0 : Int) ≤ (4 : Int)) ∧ ((4 : Int) ≤ (255 : Int))) := by omega
theorem q_5010 : (((0 : Int) ≤ (253 : Int)) ∧ ((253 : Int) ≤ (255 : Int))) := by omega
theorem q_5011 : (((0 : Int) ≤ (47 : Int)) ∧ ((47 : Int) ≤ (255 : Int))) := by omega
theorem q_5012 : (((0 : Int) ≤ (181 : Int)) ∧ ((181 : Int) ≤ (255 : Int))) := by omega
theorem q_5013 : (((0 : Int) ≤ (40 : Int)) ∧ ((40 : Int) ≤ (255 : Int))) := by omega
theorem q_5014 : (((0 : Int) ≤ (236 : Int)) ∧ ((236 : Int) ≤ (255 : Int))) := by omega
theorem q_5015 : (((0 : Int) ≤ (48 : Int)) ∧ ((48 : Int) ≤ (255 : Int))) := by omega
theorem q_5016 : (((0 : Int) ≤ (164 : Int)) ∧ ((164 : Int) ≤ (255 : Int))) := by omega
theorem q_5017 : (((0 : Int) ≤ (55 : Int)) ∧ ((55 : Int) ≤ (255 : Int))) := by omega
theorem q_5018 : (((0 : Int) ≤ (6 : Int)) ∧ ((6 : Int) ≤ (255 : Int))) := by omega
theorem q_5020 : (((0 : Int) ≤ (0 : Int)) ∧ ((0 : Int) ≤ (4294967295 : Int))) := by omega
theorem q_5021 : (((0 : Int) ≤ (24 : Int)) ∧ ((24 : Int) ≤ (63 : Int))) := by omega
theorem q_5022 : (((0 : Int) ≤ (42 : Int)) ∧ ((42 : Int) ≤ (255 : Int))) := by omega
theorem q_5023 {x0 x1 x2 : Int} (h0 : (x0 = x1)) (h1 : (x2 = x0)) (h2 : (((0 : Int) ≤ x2) ∧ (x2 ≤ (3 : Int)))) : (((0 : Int) ≤ x1) ∧ (x1 ≤ (3 : Int))) := by omega
theorem q_5024 {x0 x1 : Int} (h0 : (((0 : Int) ≤ x0) ∧ (x0 ≤ (3 : Int)))) (h1 : (((0 : Int) ≤ x1) ∧ (x1 ≤ (8 : Int)))) : ((x1 ≤ (8 : Int)) ∧ (((0 : Int) ≤ x0) ∧ (x0 ≤ (3 : Int)))) := by omega
theorem q_5025 {x0 x1 x2 : Int} (h0 : ((((x0 + x1) - (1 : Int)) / x1) < (1 : Int))) (h1 : (inr x0)) (h2 : ((((x0 + x1) - (1 : Int)) / x1) = x2)) (h3 : ((x0 = (0 : Int)) ∨ ((1 : Int) ≤ x2))) : (inr (((22 : Int) + ((3 : Int) * (1 : Int))) + x0)) := by omega
theorem q_5026 {x0 : Int} (h0 : (x0 ≤ (131072 : Int))) (h1 : (((-(2147483648 : Int)) ≤ x0) ∧ (x0 ≤ (2147483647 : Int)))) : (inr x0) := by omega
theorem q_5027 {x0 x1 x2 : Int} (h0 : (x0 = x1)) (h1 : (x2 = x1)) : (x2 = x0) := by omega
theorem q_5028 {x0 x1 x2 x3 : Int} (h0 : ((0 : Int) ≤ x0)) (h1 : (((x0 ≤ x1) ∧ (x2 = (0 : Int))) ∨ ((x0 > x1) ∧ (x2 = (1 : Int))))) (h2 : (((-(1 : Int)) ≤ x0) ∧ (x0 ≤ (65536 : Int)))) (h3 : ((x0 < (0 : Int)) ∨ (x0 = x3))) (h4 : (((0 : Int) ≤ x3) ∧ (x3 ≤ (65536 : Int)))) : (x3 = x0) := by omega
theorem q_5029 {x0 x1 x2 x3 x4 : Int} (h0 : ((0 : Int) ≤ x0)) (h1 : (((x0 ≤ x1) ∧ (x2 = (0 : Int))) ∨ ((x0 > x1) ∧ (x2 = (1 : Int))))) (h2 : (x3 = x4)) (h3 : (((-(1 : Int)) ≤ x0) ∧ (x0 ≤ (65536 : Int)))) (h4 : ((x0 < (0 : Int)) ∨ (x0 = x4))) (h5 : (((0 : Int) ≤ x3) ∧ (x3 ≤ (65536 : Int)))) : (x3 = x0) := by omega
theorem q_5030 {x0 x1 : Int} (h0 : (x0 = (0 : Int))) (h1 : (x1 = (0 : Int))) : ((x0 = (0 : Int)) ∧ (x1 = (0 : Int))) := by omega
theorem q_5031 {x0 : Int} (h0 : (((0 : Int) ≤ x0) ∧ (x0 ≤ (3 : Int)))) : (inr (-x0)) := by omega
theorem q_5032 {x0 : Int} (h0 : (((0 : Int) ≤ x0) ∧ (x0 ≤ (11 : Int)))) : (inr (-x0)) := by omega
theorem q_5033 {x0 : Int} (h0 : (((0 : Int) ≤ x0) ∧ (x0 ≤ (6 : Int)))) : (inr (-x0)) := by omega
theorem q_5034 {x0 : Int} (h0 : (((0 : Int) ≤ x0) ∧ (x0 ≤ (12 : Int)))) : (inr (-x0)) := by omega
theorem q_5035 {x0 x1 : Int} (h0 : (x0 = (0 : Int))) (h1 : (((0 : Int) ≤ x1) ∧ (x1 ≤ (65536 : Int)))) : (x0 ≤ x1) := by omega
theorem q_5036 {x0 x1 : Int} (h0 : (((0 : Int) ≤ x0) ∧ (x0 ≤ (65536 : Int)))) (h1 : (x1 = (0 : Int))) : (x1 ≤ x0) := by omega
theorem q_5037 {x0 : Int} (h0 : (((0 : Int) ≤ x0) ∧ (x0 ≤ (1000000 : Int)))) : (((0 : Int) ≤ (0 : Int)) ∧ (((0 : Int) ≤ (0 : Int)) ∧ ((0 : Int) ≤ x0))) := by omega
theorem q_5038 {x0 x1 : Int} (h0 : (x0 = (0 : Int))) : ((((0 : Int) ≤ x0) ∧ (x0 ≤ (3 : Int))) ∨ (x1 = (0 : Int))) := by omega
theorem q_5039 {x0 x1 : Int} (h0 : (x0 = (1 : Int))) : ((((0 : Int) ≤ x0) ∧ (x0 ≤ (3 : Int))) ∨ (x1 = (0 : Int))) := by omega
theorem q_5040 {x0 x1 : Int} (h0 : (x0 = (2 : Int))) : ((((0 : Int) ≤ x0) ∧ (x0 ≤ (3 : Int))) ∨ (x1 = (0 : Int))) := by omega
theorem q_5041 {x0 x1 : Int} (h0 : (x0 = (3 : Int))) : ((((0 : Int) ≤ x0) ∧ (x0 ≤ (3 : Int))) ∨ (x1 = (0 : Int))) := by omega
theorem q_5042 {x0 x1 x2 : Int} (h0 : (((x0 < x0) ∧ (x1 = x0)) ∨ ((¬ (x0 < x0)) ∧ (x1 = x0)))) (h1 : (((0 : Int) ≤ x0) ∧ ((x0 ≤ x2) ∧ (x2 ≤ (65536 : Int))))) : (((0 : Int) ≤ (0 : Int)) ∧ ((0 : Int) ≤ x1)) := by omega
theorem q_5043 {x0 x1 x2 x3 : Int} (h0 : (((x0 < x0) ∧ (x1 = x0)) ∨ ((¬ (x0 < x0)) ∧ (x1 = x0)))) (h1 : (((0 : Int) ≤ x0) ∧ ((x0 ≤ x2) ∧ (x2 ≤ (65536 : Int))))) (h2 : (((0 : Int) ≤ x3) ∧ (x3 ≤ x1))) : (inr x1) := by omega
theorem q_5044 : (((0 : Int) ≤ (0 : Int)) ∧ (((8 : Int) * (0 : Int)) ≤ (0 : Int))) := by omega
theorem q_5045 {x0 x1 x2 : Int} (h0 : (x0 < x1)) (h1 : (((0 : Int) ≤ x2) ∧ (x2 ≤ x0))) (h2 : (((0 : Int) ≤ x1) ∧ (((8 : Int) * x1) ≤ x2))) : (inr (x0 - x2)) := by omega
theorem q_5046 {x0 x1 x2 x3 : Int} (h0 : (x0 < x1)) (h1 : ((4 : Int) ≤ (x0 - x2))) (h2 : (((0 : Int) ≤ x0) ∧ ((x0 ≤ x3) ∧ (x3 ≤ (65536 : Int))))) (h3 : (((0 : Int) ≤ x2) ∧ (x2 ≤ x0))) (h4 : (((0 : Int) ≤ x1) ∧ (((8 : Int) * x1) ≤ x2))) : (((0 : Int) ≤ x2) ∧ (((0 : Int) ≤ x0) ∧ ((x0 ≤ x3) ∧ ((x3 ≤ (65536 : Int)) ∧ (x2 ≤ (200000 : Int)))))) := by omega
theorem q_5047 {x0 x1 x2 x3 : Int} (h0 : ((0 : Int) ≤ x0)) (h1 : (inr x1)) (h2 : (((0 : Int) ≤ x1) ∧ (((8 : Int) * x1) ≤ x2))) (h3 : ((x0 = (-(1 : Int))) ∨ (((x2 + (8 : Int)) ≤ x0) ∧ (x0 ≤ x3)))) : (((0 : Int) ≤ (x1 + (1 : Int))) ∧ (((8 : Int) * (x1 + (1 : Int))) ≤ x0)) := by omega
theorem q_5048 {x0 x1 x2 x3 : Int} (h0 : (((0 : Int) ≤ x0) ∧ ((x0 ≤ x1) ∧ (x1 ≤ (65536 : Int))))) (h1 : (((0 : Int) ≤ x2) ∧ (x2 ≤ x0))) (h2 : (((0 : Int) ≤ x3) ∧ (((8 : Int) * x3) ≤ x2))) : (inr (x3 + (1 : Int))) := by omega
theorem q_5049 {x0 x1 : Int} (h0 : (((0 : Int) ≤ x0) ∧ (x0 ≤ (1000000 : Int)))) (h1 : (x1 = (0 : Int))) (h2 : (x0 = (2 : Int))) : (((0 : Int) ≤ x1) ∧ (x1 < x0)) := by omega
theorem q_5050 {x0 x1 : Int} (h0 : (x0 = (1 : Int))) (h1 : (x1 = (2 : Int))) : (((0 : Int) ≤ x0) ∧ (x0 < x1)) := by omega
theorem q_5051 {x0 x1 x2 x3 : Int} : ((x0 = (1 : Int)) ∨ ((x1 = x1) ∧ ((x2 = x2) ∧ (x3 = x3)))) := by omega
theorem q_5052 {x0 x1 x2 x3 x4 x5 x6 x7 x8 x9 : Int} (h0 : (x0 ≠ (1 : Int))) : ((x0 ≠ (1 : Int)) ∨ ((x1 = (-(1 : Int))) ∧ ((x2 = (-(1 : Int))) ∧ ((x3 = (-(1 : Int))) ∧ ((x4 = (-(1 : Int))) ∧ ((x5 = (0 : Int)) ∧ ((x6 = (0 : Int)) ∧ ((x7 = (1 : Int)) ∧ ((x8 = (4 : Int)) ∧ (x9 = (8 : Int))))))))))) := by omega
theorem q_5053 {x0 x1 x2 x3 x4 x5 x6 : Int} (h0 : (x0 = (1 : Int))) : ((x0 = (1 : Int)) ∨ ((x1 = x2) ∧ ((x3 = x4) ∧ (x5 = x6)))) := by omega
theorem q_5054 {x0 x1 x2 x3 x4 x5 x6 x7 x8 x9 : Int} (h0 : (x0 = (-(1 : Int)))) (h1 : ((x1 = (-(1 : Int))) ∧ ((x2 = (-(1 : Int))) ∧ (x3 = (-(1 : Int)))))) (h2 : (x4 = (0 : Int))) (h3 : (x5 = (0 : Int))) (h4 : ((x6 = (1 : Int)) ∧ ((x7 = (4 : Int)) ∧ (x8 = (8 : Int))))) : ((x9 ≠ (1 : Int)) ∨ ((x0 = (-(1 : Int))) ∧ ((x1 = (-(1 : Int))) ∧ ((x2 = (-(1 : Int))) ∧ ((x3 = (-(1 : Int))) ∧ ((x4 = (0 : Int)) ∧ ((x5 = (0 : Int)) ∧ ((x6 = (1 : Int)) ∧ ((x7 = (4 : Int)) ∧ (x8 = (8 : Int))))))))))) := by omega
theorem q_5055 {x0 x1 x2 x3 x4 : Int} (h0 : (x0 = (0 : Int))) (h1 : ((x1 = (0 : Int)) ∧ ((x2 = (0 : Int)) ∧ (x3 = (0 : Int))))) : (((x0 = (0 : Int)) ∧ (x1 = (0 : Int))) ∨ ((x0 ≠ (0 : Int)) ∧ (x1 = x4))) := by omega
theorem q_5056 {x0 x1 x2 x3 x4 x5 x6 x7 x8 x9 : Int} (h0 : (x0 = (0 : Int))) : ((x0 ≠ (1 : Int)) ∨ ((x1 = (-(1 : Int))) ∧ ((x2 = (-(1 : Int))) ∧ ((x3 = (-(1 : Int))) ∧ ((x4 = (-(1 : Int))) ∧ ((x5 = (0 : Int)) ∧ ((x6 = (0 : Int)) ∧ ((x7 = (1 : Int)) ∧ ((x8 = (4 : Int)) ∧ (x9 = (8 : Int))))))))))) := by omega
theorem q_5057 {x0 x1 x2 x3 : Int} (h0 : (x0 = (0 : Int))) (h1 : (((x0 = (1 : Int)) ∧ (((0 : Int) ≤ x1) ∧ (x1 ≤ (3 : Int)))) ∨ ((x0 = (0 : Int)) ∧ ((x1 < (0 : Int)) ∨ ((3 : Int) < x1))))) : (((-(50 : Int)) = (-(50 : Int))) ∧ ((x1 < (0 : Int)) ∨ (((3 : Int) < x1) ∨ ((x2 < (0 : Int)) ∨ (((4 : Int) < x2) ∨ ((x3 < (0 : Int)) ∨ ((65536 : Int) < x3))))))) := by omega
theorem q_5058 {x0 x1 x2 : Int} (h0 : (x0 < (0 : Int))) : (((-(50 : Int)) = (-(50 : Int))) ∧ ((x1 < (0 : Int)) ∨ (((3 : Int) < x1) ∨ ((x0 < (0 : Int)) ∨ (((4 : Int) < x0) ∨ ((x2 < (0 : Int)) ∨ ((65536 : Int) < x2))))))) := by omega
theorem q_5059 {x0 x1 x2 : Int} (h0 : ((4 : Int) < x0)) : (((-(50 : Int)) = (-(50 : Int))) ∧ ((x1 < (0 : Int)) ∨ (((3 : Int) < x1) ∨ ((x0 < (0 : Int)) ∨ (((4 : Int) < x0) ∨ ((x2 < (0 : Int)) ∨ ((65536 : Int) < x2))))))) := by omega
theorem q_5060 {x0 x1 x2 : Int} (h0 : (x0 < (0 : Int))) : (((-(50 : Int)) = (-(50 : Int))) ∧ ((x1 < (0 : Int)) ∨ (((3 : Int) < x1) ∨ ((x2 < (0 : Int)) ∨ (((4 : Int) < x2) ∨ ((x0 < (0 : Int)) ∨ ((65536 : Int) < x0))))))) := by omega
theorem q_5061 {x0 x1 x2 : Int} (h0 : ((65536 : Int) < x0)) : (((-(50 : Int)) = (-(50 : Int))) ∧ ((x1 < (0 : Int)) ∨ (((3 : Int) < x1) ∨ ((x2 < (0 : Int)) ∨ (((4 : Int) < x2) ∨ ((x0 < (0 : Int)) ∨ ((65536 : Int) < x0))))))) := by omega
theorem q_5062 {x0 x1 x2 : Int} (h0 : (x0 < (0 : Int))) : ((((-(50 : Int)) = (-(50 : Int))) ∧ ((x1 < (0 : Int)) ∨ (((3 : Int) < x1) ∨ ((x0 < (0 : Int)) ∨ ((65536 : Int) < x0))))) ∨ (((-(50 : Int)) = (-(51 : Int))) ∧ ((((0 : Int) ≤ x1) ∧ ((x1 ≤ (3 : Int)) ∧ (((0 : Int) ≤ x0) ∧ (x0 ≤ (65536 : Int))))) ∧ ((x2 = (0 : Int)) ∨ (x2 = (5 : Int)))))) := by omega
theorem q_5063 {x0 x1 : Int} : ((x0 = x0) ∧ (x1 = x1)) := by omega
theorem q_5064 {x0 x1 x2 : Int} (h0 : ((65536 : Int) < x0)) : ((((-(50 : Int)) = (-(50 : Int))) ∧ ((x1 < (0 : Int)) ∨ (((3 : Int) < x1) ∨ ((x0 < (0 : Int)) ∨ ((65536 : Int) < x0))))) ∨ (((-(50 : Int)) = (-(51 : Int))) ∧ ((((0 : Int) ≤ x1) ∧ ((x1 ≤ (3 : Int)) ∧ (((0 : Int) ≤ x0) ∧ (x0 ≤ (65536 : Int))))) ∧ ((x2 = (0 : Int)) ∨ (x2 = (5 : Int)))))) := by omega
theorem q_5065 : ((-(50 : Int)) = (-(50 : Int))) := by omega
theorem q_5066 {x0 x1 x2 x3 x4 x5 x6 x7 x8 : Int} (h0 : (x0 < (0 : Int))) : (((-(1 : Int)) = (-(1 : Int))) ∧ ((x1 < (0 : Int)) ∨ (((3 : Int) < x1) ∨ ((x2 < (0 : Int)) ∨ (((3 : Int) < x2) ∨ ((x0 < (0 : Int)) ∨ (((5 : Int) < x0) ∨ (((x2 = (0 : Int)) ∧ (((16384 : Int) < x3) ∨ (((x0 < (2 : Int)) ∧ ((16384 : Int) < (x3 + x4))) ∨ ((x0 = (4 : Int)) ∧ ((16384 : Int) < (x3 + x5)))))) ∨ (((x2 = (1 : Int)) ∧ (((16384 : Int) < x6) ∨ (((x0 < (2 : Int)) ∧ ((16384 : Int) < (x6 + x4))) ∨ ((x0 = (4 : Int)) ∧ ((16384 : Int) < (x6 + x5)))))) ∨ (((x2 = (2 : Int)) ∧ (((16384 : Int) < x7) ∨ (((x0 < (2 : Int)) ∧ ((16384 : Int) < (x7 + x4))) ∨ ((x0 = (4 : Int)) ∧ ((16384 : Int) < (x7 + x5)))))) ∨ ((x2 = (3 : Int)) ∧ (((16384 : Int) < x8) ∨ (((x0 < (2 : Int)) ∧ ((16384 : Int) < (x8 + x4))) ∨ ((x0 = (4 : Int)) ∧ ((16384 : Int) < (x8 + x5)))))))))))))))) := by omega
theorem q_5067 {x0 x1 x2 x3 x4 x5 x6 x7 x8 : Int} (h0 : ((5 : Int) < x0)) : (((-(1 : Int)) = (-(1 : Int))) ∧ ((x1 < (0 : Int)) ∨ (((3 : Int) < x1) ∨ ((x2 < (0 : Int)) ∨ (((3 : Int) < x2) ∨ ((x0 < (0 : Int)) ∨ (((5 : Int) < x0) ∨ (((x2 = (0 : Int)) ∧ (((16384 : Int) < x3) ∨ (((x0 < (2 : Int)) ∧ ((16384 : Int) < (x3 + x4))) ∨ ((x0 = (4 : Int)) ∧ ((16384 : Int) < (x3 + x5)))))) ∨ (((x2 = (1 : Int)) ∧ (((16384 : Int) < x6) ∨ (((x0 < (2 : Int)) ∧ ((16384 : Int) < (x6 + x4))) ∨ ((x0 = (4 : Int)) ∧ ((16384 : Int) < (x6 + x5)))))) ∨ (((x2 = (2 : Int)) ∧ (((16384 : Int) < x7) ∨ (((x0 < (2 : Int)) ∧ ((16384 : Int) < (x7 + x4))) ∨ ((x0 = (4 : Int)) ∧ ((16384 : Int) < (x7 + x5)))))) ∨ ((x2 = (3 : Int)) ∧ (((16384 : Int) < x8) ∨ (((x0 < (2 : Int)) ∧ ((16384 : Int) < (x8 + x4))) ∨ ((x0 = (4 : Int)) ∧ ((16384 : Int) < (x8 + x5)))))))))))))))) := by omega
theorem q_5068 : (((0 : Int) ≤ (0 : Int)) ∧ ((0 : Int) ≤ (5 : Int))) := by omega
theorem q_5069 : (((0 : Int) ≤ (1 : Int)) ∧ ((1 : Int) ≤ (5 : Int))) := by omega
theorem q_5070 : (((0 : Int) ≤ (2 : Int)) ∧ ((2 : Int) ≤ (5 : Int))) := by omega
theorem q_5071 : (((0 : Int) ≤ (3 : Int)) ∧ ((3 : Int) ≤ (5 : Int))) := by omega
theorem q_5072 {x0 x1 x2 x3 : Int} (h0 : ((x0 = (0 : Int)) ∧ ((x1 = (0 : Int)) ∧ ((x2 = (0 : Int)) ∧ (x3 = (0 : Int)))))) : (((0 : Int) ≤ x2) ∧ (x2 ≤ (7 : Int))) := by omega
theorem q_5073 : (((0 : Int) ≤ (4 : Int)) ∧ ((4 : Int) ≤ (5 : Int))) := by omega
theorem q_5074 : (((0 : Int) ≤ (5 : Int)) ∧ ((5 : Int) ≤ (5 : Int))) := by omega
theorem q_5075 {x0 : Int} (h0 : ((8 : Int) ≤ x0)) (h1 : (x0 = x0)) : (((8 : Int) ≤ x0) ∧ (x0 = x0)) := by omega
theorem q_5076 : ((-(5 : Int)) = (-(5 : Int))) := by omega
theorem q_5077 {x0 x1 x2 x3 x4 : Int} (h0 : (x0 = (5 : Int))) (h1 : (inr x1)) (h2 : ((x2 = (-(2147483648 : Int))) ∧ (x3 = (2147483647 : Int)))) : (((x0 = (3 : Int)) ∧ ((((1 : Int) = (1 : Int)) ∧ (((64 : Int) ≤ x1) ∧ ((x1 ≤ (127 : Int)) ∧ (x4 = (0 : Int))))) ∨ (((1 : Int) = (0 : Int)) ∧ ((x1 < (64 : Int)) ∨ (((127 : Int) < x1) ∨ (x4 ≠ (0 : Int))))))) ∨ ((((x0 < (0 : Int)) ∨ ((9 : Int) < x0)) ∧ ((1 : Int) = (0 : Int))) ∨ (((0 : Int) ≤ x0) ∧ ((x0 ≤ (9 : Int)) ∧ ((x0 ≠ (3 : Int)) ∧ ((((1 : Int) = (1 : Int)) ∧ ((x2 ≤ x1) ∧ (x1 ≤ x3))) ∨ (((1 : Int) = (0 : Int)) ∧ ((x1 < x2) ∨ (x3 < x1))))))))) := by omega
theorem q_5078 {x0 x1 x2 x3 x4 : Int} (h0 : (x0 = (5 : Int))) (h1 : (x0 = (9 : Int))) (h2 : (inr x1)) (h3 : ((x2 = (-(2147483648 : Int))) ∧ (x3 = (2147483647 : Int)))) : (((x0 = (3 : Int)) ∧ ((((1 : Int) = (1 : Int)) ∧ (((64 : Int) ≤ x1) ∧ ((x1 ≤ (127 : Int)) ∧ (x4 = (0 : Int))))) ∨ (((1 : Int) = (0 : Int)) ∧ ((x1 < (64 : Int)) ∨ (((127 : Int) < x1) ∨ (x4 ≠ (0 : Int))))))) ∨ ((((x0 < (0 : Int)) ∨ ((9 : Int) < x0)) ∧ ((1 : Int) = (0 : Int))) ∨ (((0 : Int) ≤ x0) ∧ ((x0 ≤ (9 : Int)) ∧ ((x0 ≠ (3 : Int)) ∧ ((((1 : Int) = (1 : Int)) ∧ ((x2 ≤ x1) ∧ (x1 ≤ x3))) ∨ (((1 : Int) = (0 : Int)) ∧ ((x1 < x2) ∨ (x3 < x1))))))))) := by omega
theorem q_5079 {x0 x1 x2 x3 x4 : Int} (h0 : (x0 = (9 : Int))) (h1 : (inr x1)) (h2 : ((x2 = (-(2147483648 : Int))) ∧ (x3 = (2147483647 : Int)))) : (((x0 = (3 : Int)) ∧ ((((1 : Int) = (1 : Int)) ∧ (((64 : Int) ≤ x1) ∧ ((x1 ≤ (127 : Int)) ∧ (x4 = (0 : Int))))) ∨ (((1 : Int) = (0 : Int)) ∧ ((x1 < (64 : Int)) ∨ (((127 : Int) < x1) ∨ (x4 ≠ (0 : Int))))))) ∨ ((((x0 < (0 : Int)) ∨ ((9 : Int) < x0)) ∧ ((1 : Int) = (0 : Int))) ∨ (((0 : Int) ≤ x0) ∧ ((x0 ≤ (9 : Int)) ∧ ((x0 ≠ (3 : Int)) ∧ ((((1 : Int) = (1 : Int)) ∧ ((x2 ≤ x1) ∧ (x1 ≤ x3))) ∨ (((1 : Int) = (0 : Int)) ∧ ((x1 < x2) ∨ (x3 < x1))))))))) := by omega
