-- laid by wip/whole/gen
def z5_split_v1 (gc : Nat → Int32) (fx : Nat → Int64) (fa : Nat → Int64) (ft : Nat → Int64) (fi : Nat → Int64) (c : Int32) : Int32 := (z5_takeLines_2 (z5_detOf_f2 gc fx c) (z5_detOf_f3 gc fx fa c) ft fi (z5_rootOf (-((z5_detOf_f3 gc fx fa c) 8)))).2.1
def z5_split_v2 (gc : Nat → Int32) (fx : Nat → Int64) (fa : Nat → Int64) (ft : Nat → Int64) (fi : Nat → Int64) (c : Int32) : Nat → Int64 := (z5_takeLines_2 (z5_detOf_f2 gc fx c) (z5_detOf_f3 gc fx fa c) ft fi (z5_rootOf (-((z5_detOf_f3 gc fx fa c) 8)))).2.2
def z5_split_v3 (gc : Nat → Int32) (fx : Nat → Int64) (fa : Nat → Int64) (ft : Nat → Int64) (fi : Nat → Int64) (c : Int32) : Int32 := (z5_takeLines_2 (z5_detOf_f2 gc fx c) (z5_detOf_f3 gc fx fa c) ft fi (z5_rootOf (-((z5_detOf_f3 gc fx fa c) 8)))).1
def z5_split_v4 (gc : Nat → Int32) (fx : Nat → Int64) (fa : Nat → Int64) (ft : Nat → Int64) (fi : Nat → Int64) (c : Int32) : Int32 := (z5_takeLines_1 (z5_detOf_f2 gc fx c) (z5_detOf_f3 gc fx fa c) ft fi (z5_rootOf (-((z5_detOf_f3 gc fx fa c) 4)))).2.1
def z5_split_v5 (gc : Nat → Int32) (fx : Nat → Int64) (fa : Nat → Int64) (ft : Nat → Int64) (fi : Nat → Int64) (c : Int32) : Nat → Int64 := (z5_takeLines_1 (z5_detOf_f2 gc fx c) (z5_detOf_f3 gc fx fa c) ft fi (z5_rootOf (-((z5_detOf_f3 gc fx fa c) 4)))).2.2
def z5_split_v6 (gc : Nat → Int32) (fx : Nat → Int64) (fa : Nat → Int64) (ft : Nat → Int64) (fi : Nat → Int64) (c : Int32) : Int32 := (z5_takeLines_1 (z5_detOf_f2 gc fx c) (z5_detOf_f3 gc fx fa c) ft fi (z5_rootOf (-((z5_detOf_f3 gc fx fa c) 4)))).1
def z5_split_v7 (gc : Nat → Int32) (fx : Nat → Int64) (fa : Nat → Int64) (ft : Nat → Int64) (fi : Nat → Int64) (c : Int32) : Int32 := (z5_takeLines_0 (z5_detOf_f2 gc fx c) (z5_detOf_f3 gc fx fa c) ft fi (z5_rootOf (-((z5_detOf_f3 gc fx fa c) 0)))).2.1
def z5_split_v8 (gc : Nat → Int32) (fx : Nat → Int64) (fa : Nat → Int64) (ft : Nat → Int64) (fi : Nat → Int64) (c : Int32) : Nat → Int64 := (z5_takeLines_0 (z5_detOf_f2 gc fx c) (z5_detOf_f3 gc fx fa c) ft fi (z5_rootOf (-((z5_detOf_f3 gc fx fa c) 0)))).2.2
def z5_split_v9 (gc : Nat → Int32) (fx : Nat → Int64) (fa : Nat → Int64) (ft : Nat → Int64) (fi : Nat → Int64) (c : Int32) : Int32 := (z5_takeLines_0 (z5_detOf_f2 gc fx c) (z5_detOf_f3 gc fx fa c) ft fi (z5_rootOf (-((z5_detOf_f3 gc fx fa c) 0)))).1
def z5_split (pm : Int32) (gm : Nat → Int32) (gc : Nat → Int32) (fx : Nat → Int64) (fa : Nat → Int64) (ft : Nat → Int64) (fi : Nat → Int64) (c : Int32) : Int32 × Int32 × (Nat → Int64) := if (z5_isOf_2 gm c) = 0 then ((-1000002), pm, ft) else if (z5_detOf gc fx fa c) = 0 then if ((z5_detOf_f3 gc fx fa c) 0) = 0 then if ((z5_detOf_f3 gc fx fa c) 4) = 0 then if ((z5_detOf_f3 gc fx fa c) 8) = 0 then ((z5_takeLines_0 (z5_detOf_f2 gc fx c) (z5_detOf_f3 gc fx fa c) ft fi 0).1, (z5_takeLines_0 (z5_detOf_f2 gc fx c) (z5_detOf_f3 gc fx fa c) ft fi 0).2.1, (z5_takeLines_0 (z5_detOf_f2 gc fx c) (z5_detOf_f3 gc fx fa c) ft fi 0).2.2) else if ((z5_detOf_f3 gc fx fa c) 8) ≤ 0 then if ((z5_rootOf (-((z5_detOf_f3 gc fx fa c) 8))) * (z5_rootOf (-((z5_detOf_f3 gc fx fa c) 8)))) = (-((z5_detOf_f3 gc fx fa c) 8)) then (z5_split_v3 gc fx fa ft fi c, z5_split_v1 gc fx fa ft fi c, z5_split_v2 gc fx fa ft fi c) else (4, 0, ft) else (0, 0, ft) else if ((z5_detOf_f3 gc fx fa c) 8) = 0 then if ((z5_detOf_f3 gc fx fa c) 4) ≤ 0 then if ((z5_rootOf (-((z5_detOf_f3 gc fx fa c) 4))) * (z5_rootOf (-((z5_detOf_f3 gc fx fa c) 4)))) = (-((z5_detOf_f3 gc fx fa c) 4)) then (z5_split_v6 gc fx fa ft fi c, z5_split_v4 gc fx fa ft fi c, z5_split_v5 gc fx fa ft fi c) else (4, 0, ft) else (0, 0, ft) else if ((z5_detOf_f3 gc fx fa c) 8) ≤ 0 then if ((z5_rootOf (-((z5_detOf_f3 gc fx fa c) 8))) * (z5_rootOf (-((z5_detOf_f3 gc fx fa c) 8)))) = (-((z5_detOf_f3 gc fx fa c) 8)) then (z5_split_v3 gc fx fa ft fi c, z5_split_v1 gc fx fa ft fi c, z5_split_v2 gc fx fa ft fi c) else (4, 0, ft) else (0, 0, ft) else if ((z5_detOf_f3 gc fx fa c) 4) = 0 then if ((z5_detOf_f3 gc fx fa c) 8) = 0 then if ((z5_detOf_f3 gc fx fa c) 0) ≤ 0 then if ((z5_rootOf (-((z5_detOf_f3 gc fx fa c) 0))) * (z5_rootOf (-((z5_detOf_f3 gc fx fa c) 0)))) = (-((z5_detOf_f3 gc fx fa c) 0)) then (z5_split_v9 gc fx fa ft fi c, z5_split_v7 gc fx fa ft fi c, z5_split_v8 gc fx fa ft fi c) else (4, 0, ft) else (0, 0, ft) else if ((z5_detOf_f3 gc fx fa c) 8) ≤ 0 then if ((z5_rootOf (-((z5_detOf_f3 gc fx fa c) 8))) * (z5_rootOf (-((z5_detOf_f3 gc fx fa c) 8)))) = (-((z5_detOf_f3 gc fx fa c) 8)) then (z5_split_v3 gc fx fa ft fi c, z5_split_v1 gc fx fa ft fi c, z5_split_v2 gc fx fa ft fi c) else (4, 0, ft) else (0, 0, ft) else if ((z5_detOf_f3 gc fx fa c) 8) = 0 then if ((z5_detOf_f3 gc fx fa c) 4) ≤ 0 then if ((z5_rootOf (-((z5_detOf_f3 gc fx fa c) 4))) * (z5_rootOf (-((z5_detOf_f3 gc fx fa c) 4)))) = (-((z5_detOf_f3 gc fx fa c) 4)) then (z5_split_v6 gc fx fa ft fi c, z5_split_v4 gc fx fa ft fi c, z5_split_v5 gc fx fa ft fi c) else (4, 0, ft) else (0, 0, ft) else if ((z5_detOf_f3 gc fx fa c) 8) ≤ 0 then if ((z5_rootOf (-((z5_detOf_f3 gc fx fa c) 8))) * (z5_rootOf (-((z5_detOf_f3 gc fx fa c) 8)))) = (-((z5_detOf_f3 gc fx fa c) 8)) then (z5_split_v3 gc fx fa ft fi c, z5_split_v1 gc fx fa ft fi c, z5_split_v2 gc fx fa ft fi c) else (4, 0, ft) else (0, 0, ft) else ((-1000004), pm, ft)
set_option maxHeartbeats 4000000 in
set_option maxRecDepth 100000 in
/-- X5.split -/
theorem c_X5_split (l : Launch) (D : va_G) (cI cJ : ClassId) (o : Nat) (mP : Nat) (mL : Nat) (mC : Nat) (mN : Nat) (mF : Nat) (mR : Nat) (mD : Nat) (mV : Nat) (mX : Nat) (mA : Nat) (mK : Nat) (mT : Nat) (mU : Nat) (mH : Nat) (mI : Nat) (cm : Int32) (pm : Int32) (gm : Nat → Int32) (gc : Nat → Int32) (fx : Nat → Int64) (fa : Nat → Int64) (ft : Nat → Int64) (fi : Nat → Int64) (c : Int32) (hm2 : n_ok (gm 2)) (hy1 : ((z5_detOf gc fx fa c) = 0) → (((z5_detOf_f3 gc fx fa c) 0) = 0) → (((z5_detOf_f3 gc fx fa c) 4) = 0) → (((z5_detOf_f3 gc fx fa c) 8) = 0) → ((0 : Int64) = 0) → (((z5_detOf_f2 gc fx c) 0) = 0) → (((z5_detOf_f2 gc fx c) 1) = 0) → (((z5_detOf_f2 gc fx c) 2) = 0) → (((z5_detOf_f2 gc fx c) 3) = 0) → (((z5_detOf_f2 gc fx c) 4) = 0) → (((z5_detOf_f2 gc fx c) 5) = 0) → (((z5_detOf_f2 gc fx c) 6) = 0) → (((z5_detOf_f2 gc fx c) 7) = 0) → (((z5_detOf_f2 gc fx c) 8) = 0) → False) (hy2 : ((z5_detOf gc fx fa c) = 0) → (((z5_detOf_f3 gc fx fa c) 0) = 0) → (((z5_detOf_f3 gc fx fa c) 4) = 0) → (((z5_detOf_f3 gc fx fa c) 8) = 0) → (¬ ((0 : Int64) = 0)) → (((z5_detOf_f2 gc fx c) 0) = 0) → ((((z5_detOf_f2 gc fx c) 1) - ((-((z5_detOf_f3 gc fx fa c) 6)) / 0)) = 0) → ((((z5_detOf_f2 gc fx c) 2) + ((-((z5_detOf_f3 gc fx fa c) 3)) / 0)) = 0) → ((((z5_detOf_f2 gc fx c) 3) + ((-((z5_detOf_f3 gc fx fa c) 6)) / 0)) = 0) → (((z5_detOf_f2 gc fx c) 4) = 0) → ((((z5_detOf_f2 gc fx c) 5) - ((-((z5_detOf_f3 gc fx fa c) 0)) / 0)) = 0) → ((((z5_detOf_f2 gc fx c) 6) - ((-((z5_detOf_f3 gc fx fa c) 3)) / 0)) = 0) → ((((z5_detOf_f2 gc fx c) 7) + ((-((z5_detOf_f3 gc fx fa c) 0)) / 0)) = 0) → (((z5_detOf_f2 gc fx c) 8) = 0) → False) (hy3 : ((z5_detOf gc fx fa c) = 0) → (((z5_detOf_f3 gc fx fa c) 0) = 0) → (((z5_detOf_f3 gc fx fa c) 4) = 0) → (¬ (((z5_detOf_f3 gc fx fa c) 8) = 0)) → (((z5_detOf_f3 gc fx fa c) 8) ≤ 0) → (((z5_rootOf (-((z5_detOf_f3 gc fx fa c) 8))) * (z5_rootOf (-((z5_detOf_f3 gc fx fa c) 8)))) = (-((z5_detOf_f3 gc fx fa c) 8))) → ((z5_rootOf (-((z5_detOf_f3 gc fx fa c) 8))) = 0) → (((z5_detOf_f2 gc fx c) 0) = 0) → (((z5_detOf_f2 gc fx c) 1) = 0) → (((z5_detOf_f2 gc fx c) 2) = 0) → (((z5_detOf_f2 gc fx c) 3) = 0) → (((z5_detOf_f2 gc fx c) 4) = 0) → (((z5_detOf_f2 gc fx c) 5) = 0) → (((z5_detOf_f2 gc fx c) 6) = 0) → (((z5_detOf_f2 gc fx c) 7) = 0) → (((z5_detOf_f2 gc fx c) 8) = 0) → False) (hy4 : ((z5_detOf gc fx fa c) = 0) → (((z5_detOf_f3 gc fx fa c) 0) = 0) → (((z5_detOf_f3 gc fx fa c) 4) = 0) → (¬ (((z5_detOf_f3 gc fx fa c) 8) = 0)) → (((z5_detOf_f3 gc fx fa c) 8) ≤ 0) → (((z5_rootOf (-((z5_detOf_f3 gc fx fa c) 8))) * (z5_rootOf (-((z5_detOf_f3 gc fx fa c) 8)))) = (-((z5_detOf_f3 gc fx fa c) 8))) → (¬ ((z5_rootOf (-((z5_detOf_f3 gc fx fa c) 8))) = 0)) → (((z5_detOf_f2 gc fx c) 0) = 0) → ((((z5_detOf_f2 gc fx c) 1) - ((-((z5_detOf_f3 gc fx fa c) 8)) / (z5_rootOf (-((z5_detOf_f3 gc fx fa c) 8))))) = 0) → ((((z5_detOf_f2 gc fx c) 2) + ((-((z5_detOf_f3 gc fx fa c) 5)) / (z5_rootOf (-((z5_detOf_f3 gc fx fa c) 8))))) = 0) → ((((z5_detOf_f2 gc fx c) 3) + ((-((z5_detOf_f3 gc fx fa c) 8)) / (z5_rootOf (-((z5_detOf_f3 gc fx fa c) 8))))) = 0) → (((z5_detOf_f2 gc fx c) 4) = 0) → ((((z5_detOf_f2 gc fx c) 5) - ((-((z5_detOf_f3 gc fx fa c) 2)) / (z5_rootOf (-((z5_detOf_f3 gc fx fa c) 8))))) = 0) → ((((z5_detOf_f2 gc fx c) 6) - ((-((z5_detOf_f3 gc fx fa c) 5)) / (z5_rootOf (-((z5_detOf_f3 gc fx fa c) 8))))) = 0) → ((((z5_detOf_f2 gc fx c) 7) + ((-((z5_detOf_f3 gc fx fa c) 2)) / (z5_rootOf (-((z5_detOf_f3 gc fx fa c) 8))))) = 0) → (((z5_detOf_f2 gc fx c) 8) = 0) → False) (hy5 : ((z5_detOf gc fx fa c) = 0) → (((z5_detOf_f3 gc fx fa c) 0) = 0) → (¬ (((z5_detOf_f3 gc fx fa c) 4) = 0)) → (((z5_detOf_f3 gc fx fa c) 8) = 0) → (((z5_detOf_f3 gc fx fa c) 4) ≤ 0) → (((z5_rootOf (-((z5_detOf_f3 gc fx fa c) 4))) * (z5_rootOf (-((z5_detOf_f3 gc fx fa c) 4)))) = (-((z5_detOf_f3 gc fx fa c) 4))) → ((z5_rootOf (-((z5_detOf_f3 gc fx fa c) 4))) = 0) → (((z5_detOf_f2 gc fx c) 0) = 0) → (((z5_detOf_f2 gc fx c) 1) = 0) → (((z5_detOf_f2 gc fx c) 2) = 0) → (((z5_detOf_f2 gc fx c) 3) = 0) → (((z5_detOf_f2 gc fx c) 4) = 0) → (((z5_detOf_f2 gc fx c) 5) = 0) → (((z5_detOf_f2 gc fx c) 6) = 0) → (((z5_detOf_f2 gc fx c) 7) = 0) → (((z5_detOf_f2 gc fx c) 8) = 0) → False) (hy6 : ((z5_detOf gc fx fa c) = 0) → (((z5_detOf_f3 gc fx fa c) 0) = 0) → (¬ (((z5_detOf_f3 gc fx fa c) 4) = 0)) → (((z5_detOf_f3 gc fx fa c) 8) = 0) → (((z5_detOf_f3 gc fx fa c) 4) ≤ 0) → (((z5_rootOf (-((z5_detOf_f3 gc fx fa c) 4))) * (z5_rootOf (-((z5_detOf_f3 gc fx fa c) 4)))) = (-((z5_detOf_f3 gc fx fa c) 4))) → (¬ ((z5_rootOf (-((z5_detOf_f3 gc fx fa c) 4))) = 0)) → (((z5_detOf_f2 gc fx c) 0) = 0) → ((((z5_detOf_f2 gc fx c) 1) - ((-((z5_detOf_f3 gc fx fa c) 7)) / (z5_rootOf (-((z5_detOf_f3 gc fx fa c) 4))))) = 0) → ((((z5_detOf_f2 gc fx c) 2) + ((-((z5_detOf_f3 gc fx fa c) 4)) / (z5_rootOf (-((z5_detOf_f3 gc fx fa c) 4))))) = 0) → ((((z5_detOf_f2 gc fx c) 3) + ((-((z5_detOf_f3 gc fx fa c) 7)) / (z5_rootOf (-((z5_detOf_f3 gc fx fa c) 4))))) = 0) → (((z5_detOf_f2 gc fx c) 4) = 0) → ((((z5_detOf_f2 gc fx c) 5) - ((-((z5_detOf_f3 gc fx fa c) 1)) / (z5_rootOf (-((z5_detOf_f3 gc fx fa c) 4))))) = 0) → ((((z5_detOf_f2 gc fx c) 6) - ((-((z5_detOf_f3 gc fx fa c) 4)) / (z5_rootOf (-((z5_detOf_f3 gc fx fa c) 4))))) = 0) → ((((z5_detOf_f2 gc fx c) 7) + ((-((z5_detOf_f3 gc fx fa c) 1)) / (z5_rootOf (-((z5_detOf_f3 gc fx fa c) 4))))) = 0) → (((z5_detOf_f2 gc fx c) 8) = 0) → False) (hy7 : ((z5_detOf gc fx fa c) = 0) → (((z5_detOf_f3 gc fx fa c) 0) = 0) → (¬ (((z5_detOf_f3 gc fx fa c) 4) = 0)) → (¬ (((z5_detOf_f3 gc fx fa c) 8) = 0)) → (((z5_detOf_f3 gc fx fa c) 8) ≤ 0) → (((z5_rootOf (-((z5_detOf_f3 gc fx fa c) 8))) * (z5_rootOf (-((z5_detOf_f3 gc fx fa c) 8)))) = (-((z5_detOf_f3 gc fx fa c) 8))) → ((z5_rootOf (-((z5_detOf_f3 gc fx fa c) 8))) = 0) → (((z5_detOf_f2 gc fx c) 0) = 0) → (((z5_detOf_f2 gc fx c) 1) = 0) → (((z5_detOf_f2 gc fx c) 2) = 0) → (((z5_detOf_f2 gc fx c) 3) = 0) → (((z5_detOf_f2 gc fx c) 4) = 0) → (((z5_detOf_f2 gc fx c) 5) = 0) → (((z5_detOf_f2 gc fx c) 6) = 0) → (((z5_detOf_f2 gc fx c) 7) = 0) → (((z5_detOf_f2 gc fx c) 8) = 0) → False) (hy8 : ((z5_detOf gc fx fa c) = 0) → (((z5_detOf_f3 gc fx fa c) 0) = 0) → (¬ (((z5_detOf_f3 gc fx fa c) 4) = 0)) → (¬ (((z5_detOf_f3 gc fx fa c) 8) = 0)) → (((z5_detOf_f3 gc fx fa c) 8) ≤ 0) → (((z5_rootOf (-((z5_detOf_f3 gc fx fa c) 8))) * (z5_rootOf (-((z5_detOf_f3 gc fx fa c) 8)))) = (-((z5_detOf_f3 gc fx fa c) 8))) → (¬ ((z5_rootOf (-((z5_detOf_f3 gc fx fa c) 8))) = 0)) → (((z5_detOf_f2 gc fx c) 0) = 0) → ((((z5_detOf_f2 gc fx c) 1) - ((-((z5_detOf_f3 gc fx fa c) 8)) / (z5_rootOf (-((z5_detOf_f3 gc fx fa c) 8))))) = 0) → ((((z5_detOf_f2 gc fx c) 2) + ((-((z5_detOf_f3 gc fx fa c) 5)) / (z5_rootOf (-((z5_detOf_f3 gc fx fa c) 8))))) = 0) → ((((z5_detOf_f2 gc fx c) 3) + ((-((z5_detOf_f3 gc fx fa c) 8)) / (z5_rootOf (-((z5_detOf_f3 gc fx fa c) 8))))) = 0) → (((z5_detOf_f2 gc fx c) 4) = 0) → ((((z5_detOf_f2 gc fx c) 5) - ((-((z5_detOf_f3 gc fx fa c) 2)) / (z5_rootOf (-((z5_detOf_f3 gc fx fa c) 8))))) = 0) → ((((z5_detOf_f2 gc fx c) 6) - ((-((z5_detOf_f3 gc fx fa c) 5)) / (z5_rootOf (-((z5_detOf_f3 gc fx fa c) 8))))) = 0) → ((((z5_detOf_f2 gc fx c) 7) + ((-((z5_detOf_f3 gc fx fa c) 2)) / (z5_rootOf (-((z5_detOf_f3 gc fx fa c) 8))))) = 0) → (((z5_detOf_f2 gc fx c) 8) = 0) → False) (hy9 : ((z5_detOf gc fx fa c) = 0) → (¬ (((z5_detOf_f3 gc fx fa c) 0) = 0)) → (((z5_detOf_f3 gc fx fa c) 4) = 0) → (((z5_detOf_f3 gc fx fa c) 8) = 0) → (((z5_detOf_f3 gc fx fa c) 0) ≤ 0) → (((z5_rootOf (-((z5_detOf_f3 gc fx fa c) 0))) * (z5_rootOf (-((z5_detOf_f3 gc fx fa c) 0)))) = (-((z5_detOf_f3 gc fx fa c) 0))) → ((z5_rootOf (-((z5_detOf_f3 gc fx fa c) 0))) = 0) → (((z5_detOf_f2 gc fx c) 0) = 0) → (((z5_detOf_f2 gc fx c) 1) = 0) → (((z5_detOf_f2 gc fx c) 2) = 0) → (((z5_detOf_f2 gc fx c) 3) = 0) → (((z5_detOf_f2 gc fx c) 4) = 0) → (((z5_detOf_f2 gc fx c) 5) = 0) → (((z5_detOf_f2 gc fx c) 6) = 0) → (((z5_detOf_f2 gc fx c) 7) = 0) → (((z5_detOf_f2 gc fx c) 8) = 0) → False) (hy10 : ((z5_detOf gc fx fa c) = 0) → (¬ (((z5_detOf_f3 gc fx fa c) 0) = 0)) → (((z5_detOf_f3 gc fx fa c) 4) = 0) → (((z5_detOf_f3 gc fx fa c) 8) = 0) → (((z5_detOf_f3 gc fx fa c) 0) ≤ 0) → (((z5_rootOf (-((z5_detOf_f3 gc fx fa c) 0))) * (z5_rootOf (-((z5_detOf_f3 gc fx fa c) 0)))) = (-((z5_detOf_f3 gc fx fa c) 0))) → (¬ ((z5_rootOf (-((z5_detOf_f3 gc fx fa c) 0))) = 0)) → (((z5_detOf_f2 gc fx c) 0) = 0) → ((((z5_detOf_f2 gc fx c) 1) - ((-((z5_detOf_f3 gc fx fa c) 6)) / (z5_rootOf (-((z5_detOf_f3 gc fx fa c) 0))))) = 0) → ((((z5_detOf_f2 gc fx c) 2) + ((-((z5_detOf_f3 gc fx fa c) 3)) / (z5_rootOf (-((z5_detOf_f3 gc fx fa c) 0))))) = 0) → ((((z5_detOf_f2 gc fx c) 3) + ((-((z5_detOf_f3 gc fx fa c) 6)) / (z5_rootOf (-((z5_detOf_f3 gc fx fa c) 0))))) = 0) → (((z5_detOf_f2 gc fx c) 4) = 0) → ((((z5_detOf_f2 gc fx c) 5) - ((-((z5_detOf_f3 gc fx fa c) 0)) / (z5_rootOf (-((z5_detOf_f3 gc fx fa c) 0))))) = 0) → ((((z5_detOf_f2 gc fx c) 6) - ((-((z5_detOf_f3 gc fx fa c) 3)) / (z5_rootOf (-((z5_detOf_f3 gc fx fa c) 0))))) = 0) → ((((z5_detOf_f2 gc fx c) 7) + ((-((z5_detOf_f3 gc fx fa c) 0)) / (z5_rootOf (-((z5_detOf_f3 gc fx fa c) 0))))) = 0) → (((z5_detOf_f2 gc fx c) 8) = 0) → False) (hy11 : ((z5_detOf gc fx fa c) = 0) → (¬ (((z5_detOf_f3 gc fx fa c) 0) = 0)) → (((z5_detOf_f3 gc fx fa c) 4) = 0) → (¬ (((z5_detOf_f3 gc fx fa c) 8) = 0)) → (((z5_detOf_f3 gc fx fa c) 8) ≤ 0) → (((z5_rootOf (-((z5_detOf_f3 gc fx fa c) 8))) * (z5_rootOf (-((z5_detOf_f3 gc fx fa c) 8)))) = (-((z5_detOf_f3 gc fx fa c) 8))) → ((z5_rootOf (-((z5_detOf_f3 gc fx fa c) 8))) = 0) → (((z5_detOf_f2 gc fx c) 0) = 0) → (((z5_detOf_f2 gc fx c) 1) = 0) → (((z5_detOf_f2 gc fx c) 2) = 0) → (((z5_detOf_f2 gc fx c) 3) = 0) → (((z5_detOf_f2 gc fx c) 4) = 0) → (((z5_detOf_f2 gc fx c) 5) = 0) → (((z5_detOf_f2 gc fx c) 6) = 0) → (((z5_detOf_f2 gc fx c) 7) = 0) → (((z5_detOf_f2 gc fx c) 8) = 0) → False) (hy12 : ((z5_detOf gc fx fa c) = 0) → (¬ (((z5_detOf_f3 gc fx fa c) 0) = 0)) → (((z5_detOf_f3 gc fx fa c) 4) = 0) → (¬ (((z5_detOf_f3 gc fx fa c) 8) = 0)) → (((z5_detOf_f3 gc fx fa c) 8) ≤ 0) → (((z5_rootOf (-((z5_detOf_f3 gc fx fa c) 8))) * (z5_rootOf (-((z5_detOf_f3 gc fx fa c) 8)))) = (-((z5_detOf_f3 gc fx fa c) 8))) → (¬ ((z5_rootOf (-((z5_detOf_f3 gc fx fa c) 8))) = 0)) → (((z5_detOf_f2 gc fx c) 0) = 0) → ((((z5_detOf_f2 gc fx c) 1) - ((-((z5_detOf_f3 gc fx fa c) 8)) / (z5_rootOf (-((z5_detOf_f3 gc fx fa c) 8))))) = 0) → ((((z5_detOf_f2 gc fx c) 2) + ((-((z5_detOf_f3 gc fx fa c) 5)) / (z5_rootOf (-((z5_detOf_f3 gc fx fa c) 8))))) = 0) → ((((z5_detOf_f2 gc fx c) 3) + ((-((z5_detOf_f3 gc fx fa c) 8)) / (z5_rootOf (-((z5_detOf_f3 gc fx fa c) 8))))) = 0) → (((z5_detOf_f2 gc fx c) 4) = 0) → ((((z5_detOf_f2 gc fx c) 5) - ((-((z5_detOf_f3 gc fx fa c) 2)) / (z5_rootOf (-((z5_detOf_f3 gc fx fa c) 8))))) = 0) → ((((z5_detOf_f2 gc fx c) 6) - ((-((z5_detOf_f3 gc fx fa c) 5)) / (z5_rootOf (-((z5_detOf_f3 gc fx fa c) 8))))) = 0) → ((((z5_detOf_f2 gc fx c) 7) + ((-((z5_detOf_f3 gc fx fa c) 2)) / (z5_rootOf (-((z5_detOf_f3 gc fx fa c) 8))))) = 0) → (((z5_detOf_f2 gc fx c) 8) = 0) → False) (hy13 : ((z5_detOf gc fx fa c) = 0) → (¬ (((z5_detOf_f3 gc fx fa c) 0) = 0)) → (¬ (((z5_detOf_f3 gc fx fa c) 4) = 0)) → (((z5_detOf_f3 gc fx fa c) 8) = 0) → (((z5_detOf_f3 gc fx fa c) 4) ≤ 0) → (((z5_rootOf (-((z5_detOf_f3 gc fx fa c) 4))) * (z5_rootOf (-((z5_detOf_f3 gc fx fa c) 4)))) = (-((z5_detOf_f3 gc fx fa c) 4))) → ((z5_rootOf (-((z5_detOf_f3 gc fx fa c) 4))) = 0) → (((z5_detOf_f2 gc fx c) 0) = 0) → (((z5_detOf_f2 gc fx c) 1) = 0) → (((z5_detOf_f2 gc fx c) 2) = 0) → (((z5_detOf_f2 gc fx c) 3) = 0) → (((z5_detOf_f2 gc fx c) 4) = 0) → (((z5_detOf_f2 gc fx c) 5) = 0) → (((z5_detOf_f2 gc fx c) 6) = 0) → (((z5_detOf_f2 gc fx c) 7) = 0) → (((z5_detOf_f2 gc fx c) 8) = 0) → False) (hy14 : ((z5_detOf gc fx fa c) = 0) → (¬ (((z5_detOf_f3 gc fx fa c) 0) = 0)) → (¬ (((z5_detOf_f3 gc fx fa c) 4) = 0)) → (((z5_detOf_f3 gc fx fa c) 8) = 0) → (((z5_detOf_f3 gc fx fa c) 4) ≤ 0) → (((z5_rootOf (-((z5_detOf_f3 gc fx fa c) 4))) * (z5_rootOf (-((z5_detOf_f3 gc fx fa c) 4)))) = (-((z5_detOf_f3 gc fx fa c) 4))) → (¬ ((z5_rootOf (-((z5_detOf_f3 gc fx fa c) 4))) = 0)) → (((z5_detOf_f2 gc fx c) 0) = 0) → ((((z5_detOf_f2 gc fx c) 1) - ((-((z5_detOf_f3 gc fx fa c) 7)) / (z5_rootOf (-((z5_detOf_f3 gc fx fa c) 4))))) = 0) → ((((z5_detOf_f2 gc fx c) 2) + ((-((z5_detOf_f3 gc fx fa c) 4)) / (z5_rootOf (-((z5_detOf_f3 gc fx fa c) 4))))) = 0) → ((((z5_detOf_f2 gc fx c) 3) + ((-((z5_detOf_f3 gc fx fa c) 7)) / (z5_rootOf (-((z5_detOf_f3 gc fx fa c) 4))))) = 0) → (((z5_detOf_f2 gc fx c) 4) = 0) → ((((z5_detOf_f2 gc fx c) 5) - ((-((z5_detOf_f3 gc fx fa c) 1)) / (z5_rootOf (-((z5_detOf_f3 gc fx fa c) 4))))) = 0) → ((((z5_detOf_f2 gc fx c) 6) - ((-((z5_detOf_f3 gc fx fa c) 4)) / (z5_rootOf (-((z5_detOf_f3 gc fx fa c) 4))))) = 0) → ((((z5_detOf_f2 gc fx c) 7) + ((-((z5_detOf_f3 gc fx fa c) 1)) / (z5_rootOf (-((z5_detOf_f3 gc fx fa c) 4))))) = 0) → (((z5_detOf_f2 gc fx c) 8) = 0) → False) (hy15 : ((z5_detOf gc fx fa c) = 0) → (¬ (((z5_detOf_f3 gc fx fa c) 0) = 0)) → (¬ (((z5_detOf_f3 gc fx fa c) 4) = 0)) → (¬ (((z5_detOf_f3 gc fx fa c) 8) = 0)) → (((z5_detOf_f3 gc fx fa c) 8) ≤ 0) → (((z5_rootOf (-((z5_detOf_f3 gc fx fa c) 8))) * (z5_rootOf (-((z5_detOf_f3 gc fx fa c) 8)))) = (-((z5_detOf_f3 gc fx fa c) 8))) → ((z5_rootOf (-((z5_detOf_f3 gc fx fa c) 8))) = 0) → (((z5_detOf_f2 gc fx c) 0) = 0) → (((z5_detOf_f2 gc fx c) 1) = 0) → (((z5_detOf_f2 gc fx c) 2) = 0) → (((z5_detOf_f2 gc fx c) 3) = 0) → (((z5_detOf_f2 gc fx c) 4) = 0) → (((z5_detOf_f2 gc fx c) 5) = 0) → (((z5_detOf_f2 gc fx c) 6) = 0) → (((z5_detOf_f2 gc fx c) 7) = 0) → (((z5_detOf_f2 gc fx c) 8) = 0) → False) (hy16 : ((z5_detOf gc fx fa c) = 0) → (¬ (((z5_detOf_f3 gc fx fa c) 0) = 0)) → (¬ (((z5_detOf_f3 gc fx fa c) 4) = 0)) → (¬ (((z5_detOf_f3 gc fx fa c) 8) = 0)) → (((z5_detOf_f3 gc fx fa c) 8) ≤ 0) → (((z5_rootOf (-((z5_detOf_f3 gc fx fa c) 8))) * (z5_rootOf (-((z5_detOf_f3 gc fx fa c) 8)))) = (-((z5_detOf_f3 gc fx fa c) 8))) → (¬ ((z5_rootOf (-((z5_detOf_f3 gc fx fa c) 8))) = 0)) → (((z5_detOf_f2 gc fx c) 0) = 0) → ((((z5_detOf_f2 gc fx c) 1) - ((-((z5_detOf_f3 gc fx fa c) 8)) / (z5_rootOf (-((z5_detOf_f3 gc fx fa c) 8))))) = 0) → ((((z5_detOf_f2 gc fx c) 2) + ((-((z5_detOf_f3 gc fx fa c) 5)) / (z5_rootOf (-((z5_detOf_f3 gc fx fa c) 8))))) = 0) → ((((z5_detOf_f2 gc fx c) 3) + ((-((z5_detOf_f3 gc fx fa c) 8)) / (z5_rootOf (-((z5_detOf_f3 gc fx fa c) 8))))) = 0) → (((z5_detOf_f2 gc fx c) 4) = 0) → ((((z5_detOf_f2 gc fx c) 5) - ((-((z5_detOf_f3 gc fx fa c) 2)) / (z5_rootOf (-((z5_detOf_f3 gc fx fa c) 8))))) = 0) → ((((z5_detOf_f2 gc fx c) 6) - ((-((z5_detOf_f3 gc fx fa c) 5)) / (z5_rootOf (-((z5_detOf_f3 gc fx fa c) 8))))) = 0) → ((((z5_detOf_f2 gc fx c) 7) + ((-((z5_detOf_f3 gc fx fa c) 2)) / (z5_rootOf (-((z5_detOf_f3 gc fx fa c) 8))))) = 0) → (((z5_detOf_f2 gc fx c) 8) = 0) → False) : mw_C l yX5_split wsX5_split ({ frames := 4, cells := 0, slots := 0, locals := 108 }) D cI cJ [.ref o, .int c] [kM o mP mL mC mN mF mR mD mV mX mA mK cm mT pm mU mH mI, kA mN cI 3 gm, kA mC cI 360 gc, kJ mX cJ 9 fx, kJ mA cJ 9 fa, kJ mT cJ 6 ft, kJ mI cJ 3 fi] (qe_i (fun (r : Int32) (_ : (Nat → Int64) × (Nat → Int64) × (Nat → Int64)) => r = (z5_split pm gm gc fx fa ft fi c).1) (fun uu => [kM o mP mL mC mN mF mR mD mV mX mA mK cm mT ((z5_split pm gm gc fx fa ft fi c).2.1) mU mH mI, kA mN cI 3 gm, kA mC cI 360 gc, kJ mX cJ 9 uu.1, kJ mA cJ 9 uu.2.1, kJ mT cJ 6 ((z5_split pm gm gc fx fa ft fi c).2.2), kJ mI cJ 3 uu.2.2])) := by
  refine mw_in (cc := cX5_split) (lv := [(0, .ref o), (1, .int c)]) (by decide) rfl (Nat.le_of_ble_eq_true rfl) rfl ?_
  intro pG eG sG mG below meth cG ls A hx hb hr hml hown hts hlk hin hP hK hD hA hS hl
  have hown : sG.vm.findClass RX5 = some mG.cls := hown
  have k_1 := hts (.fieldLink RX5 209 "ConicRowsModel" "partMany" "I") (by decide +kernel)
  have k_2 : ∀ w ∈ wsX50, w ∈ wsX5_split := by decide +kernel
  have k_3 := hts (.constant RX5 122 (-1000001)) (by decide +kernel)
  have k_4 := hts (.fieldLink RX5 38 "ConicRowsModel" "adjoint" "[J") (by decide +kernel)
  have k_5 := hts (.constant RX5 106 (-1000004)) (by decide +kernel)
  have k_6 := hts (.constant RX5 101 (-1000002)) (by decide +kernel)
  refine lv_aload_n hx hb dX5_split_0 rfl (lv_at hl 0 rfl) ?_
  refine lv_iconst (v := 2) hx hb dX5_split_1 (by decide) ?_
  refine lv_iload_n hx hb dX5_split_2 rfl (lv_at hl 1 rfl) ?_
  have hPc := hP.sub (ws' := [kM o mP mL mC mN mF mR mD mV mX mA mK cm mT pm mU mH mI, kA mN cI 3 gm]) [0, 1] rfl
  refine cr_i (va_runV (As := [.int 2, .int c]) (rest := []) ⟨hx, hb, hml, hown, hts⟩ (c_X5_isOf_2 l D cI cJ o mP mL mC mN mF mR mD mV mX mA mK mT mU mH mI cm pm gm c) (cwV 2 hts gX5_split_X5_isOf rfl rfl rfl (by decide +kernel) ⟨Nat.le_of_ble_eq_true rfl, Nat.le_of_ble_eq_true rfl⟩) ⟨gd_blR, va_recv hK.1 hPc (ci := 5) (q0 := 0) rfl rfl, gd_prR hPc hK⟩ rfl rfl hl.1 rfl (lv_room (Nat.le_of_ble_eq_true rfl)) dX5_split_3 ⟨Nat.zero_le _, Nat.zero_le _⟩) (fun r_3 hw => ?_)
  subst hw
  clear hPc
  refine lv_if_ne (tgt := 12) hx hb dX5_split_6 (by decide) (fun c_1 => ?_) (fun c_1 => ?_)
  · skip
    refine lv_aload_n hx hb dX5_split_12 rfl (lv_at hl 0 rfl) ?_
    refine lv_iload_n hx hb dX5_split_13 rfl (lv_at hl 1 rfl) ?_
    have hPc := hP.sub (ws' := [kM o mP mL mC mN mF mR mD mV mX mA mK cm mT pm mU mH mI, kA mC cI 360 gc, kJ mX cJ 9 fx, kJ mA cJ 9 fa]) [0, 2, 3, 4] rfl
    have hDc := hD.sub (ws' := [kM o mP mL mC mN mF mR mD mV mX mA mK cm mT pm mU mH mI, kA mC cI 360 gc, kJ mX cJ 9 fx, kJ mA cJ 9 fa]) [0, 2, 3, 4] (by decide) rfl
    refine cl_l (wc := [kM o mP mL mC mN mF mR mD mV mX mA mK cm mT pm mU mH mI, kA mC cI 360 gc, kJ mX cJ 9 fx, kJ mA cJ 9 fa]) (wr := [kA mN cI 3 gm, kJ mT cJ 6 ft, kJ mI cJ 3 fi]) (w1 := fun uu : Unit => [kM o mP mL mC mN mF mR mD mV mX mA mK cm mT pm mU mH mI, kA mC cI 360 gc, kJ mX cJ 9 (z5_detOf_f2 gc fx c), kJ mA cJ 9 (z5_detOf_f3 gc fx fa c)]) (wn := fun uu : Unit => [kM o mP mL mC mN mF mR mD mV mX mA mK cm mT pm mU mH mI, kA mN cI 3 gm, kA mC cI 360 gc, kJ mX cJ 9 (z5_detOf_f2 gc fx c), kJ mA cJ 9 (z5_detOf_f3 gc fx fa c), kJ mT cJ 6 ft, kJ mI cJ 3 fi]) (va_runV (As := [.int c]) (rest := []) ⟨hx, hb, hml, hown, hts⟩ (c_X5_detOf l D cI cJ o mP mL mC mN mF mR mD mV mX mA mK mT mU mH mI cm pm gc fx fa c (ok_of hm2 c_1) _) (cwV 1 hts gX5_split_X5_detOf rfl rfl rfl (by decide +kernel) ⟨Nat.le_of_ble_eq_true rfl, Nat.le_of_ble_eq_true rfl⟩) ⟨gd_blP, va_recv hK.1 hPc (ci := 5) (q0 := 0) rfl rfl, gd_prP hPc hK hDc⟩ rfl rfl hl.1 rfl (lv_room (Nat.le_of_ble_eq_true rfl)) dX5_split_14 ⟨Nat.zero_le _, Nat.zero_le _⟩) hP hD hS hA [0, 2, 3, 4] [1, 5, 6] rfl rfl (by decide) (by decide) [3, 0, 4, 5, 6, 1, 2] (by decide) (fun _ => rfl) (fun r_14 uG H locs hw hP hD hS => ?_)
    have hP : va_P D vwCl [kM o mP mL mC mN mF mR mD mV mX mA mK cm mT pm mU mH mI, kA mN cI 3 gm, kA mC cI 360 gc, kJ mX cJ 9 (z5_detOf_f2 gc fx c), kJ mA cJ 9 (z5_detOf_f3 gc fx fa c), kJ mT cJ 6 ft, kJ mI cJ 3 fi] H := hP
    have hD : va_D A [kM o mP mL mC mN mF mR mD mV mX mA mK cm mT pm mU mH mI, kA mN cI 3 gm, kA mC cI 360 gc, kJ mX cJ 9 (z5_detOf_f2 gc fx c), kJ mA cJ 9 (z5_detOf_f3 gc fx fa c), kJ mT cJ 6 ft, kJ mI cJ 3 fi] := hD
    subst hw
    clear hPc hDc
    refine lv_lconst (v := 0) hx hb dX5_split_17 (by decide) ?_
    refine lb_eq (tgt := 25) hx hb dX5_split_18 rfl dX5_split_19 (by decide) (fun c_2 => ?_) (fun c_2 => ?_)
    · skip
      refine lv_aload_n hx hb dX5_split_25 rfl (lv_at hl 0 rfl) ?_
      refine lv_iconst (v := 0) hx hb dX5_split_26 (by decide) ?_
      refine va_put (D := D) (ci := 5) (v := .int 0) (ty := .int) (C := RX5) (T := TX5) (N := 17) hx hb hts k_2 tyX5 tyX5_ok nmX5 hown hK.1 hP hD hS 0 rfl rfl 13 (by decide) k_1 (fun _ h9 => h9) rfl (by decide +kernel) rfl rfl (Nat.le_of_ble_eq_true rfl) dX5_split_27 (fun H locs hP hD hS => ?_)
      have hP : va_P D vwCl [kM o mP mL mC mN mF mR mD mV mX mA mK cm mT 0 mU mH mI, kA mN cI 3 gm, kA mC cI 360 gc, kJ mX cJ 9 (z5_detOf_f2 gc fx c), kJ mA cJ 9 (z5_detOf_f3 gc fx fa c), kJ mT cJ 6 ft, kJ mI cJ 3 fi] H := hP
      have hD : va_D A [kM o mP mL mC mN mF mR mD mV mX mA mK cm mT 0 mU mH mI, kA mN cI 3 gm, kA mC cI 360 gc, kJ mX cJ 9 (z5_detOf_f2 gc fx c), kJ mA cJ 9 (z5_detOf_f3 gc fx fa c), kJ mT cJ 6 ft, kJ mI cJ 3 fi] := hD
      refine lv_ldc hx hb hown k_3 dX5_split_30 ?_
      refine lv_istore_n (lv' := [(2, .int (-1000001)), (0, .ref o), (1, .int c)]) hx hb dX5_split_32 rfl hl (by decide) rfl (fun ls hl => ?_)
      refine lv_iconst (v := 0) hx hb dX5_split_33 (by decide) ?_
      refine lv_istore_n (lv' := [(3, .int 0), (2, .int (-1000001)), (0, .ref o), (1, .int c)]) hx hb dX5_split_34 rfl hl (by decide) rfl (fun ls hl => ?_)
      refine lv_iload_n hx hb dX5_split_35 rfl (lv_at hl 0 rfl) ?_
      refine lv_iconst (v := 3) hx hb dX5_split_36 (by decide) ?_
      refine lv_icmp_ge (tgt := 65) hx hb dX5_split_37 (by decide) (fun h => absurd h (by decide)) (fun _ => ?_)
      refine lv_aload_n hx hb dX5_split_40 rfl (lv_at hl 2 rfl) ?_
      refine va_get (D := D) (ci := 5) (v := .ref mA) (C := RX5) (T := TX5) (N := 17) hx hb hts k_2 hown hK.1 hP 0 rfl rfl 9 (by decide) k_4 (fun _ h9 => h9) rfl dX5_split_41 ?_
      refine lv_iconst (v := 4) hx hb dX5_split_44 (by decide) ?_
      refine lv_iload_n hx hb dX5_split_45 rfl (lv_at hl 0 rfl) ?_
      refine lv_imul hx hb dX5_split_46 ?_
      refine lv_eqi (v := 0) (by decide) ?_
      refine ld_l hx hb hK.1 hP 4 1 rfl rfl (ix_lit (by decide)) 0 (by decide) (v := (z5_detOf_f3 gc fx fa c) 0) rfl dX5_split_47 ?_
      refine lv_lconst (v := 0) hx hb dX5_split_48 (by decide) ?_
      refine lb_eq (tgt := 57) hx hb dX5_split_49 rfl dX5_split_50 (by decide) (fun c_3 => ?_) (fun c_3 => ?_)
      · skip
        refine lv_iload_n hx hb dX5_split_57 rfl (lv_at hl 1 rfl) ?_
        refine lv_istore_n (lv' := [(2, .int (-1000001)), (3, .int 0), (0, .ref o), (1, .int c)]) hx hb dX5_split_58 rfl hl (by decide) rfl (fun ls hl => ?_)
        refine lv_iinc (v := 1) (lv' := [(3, .int 1), (2, .int (-1000001)), (0, .ref o), (1, .int c)]) hx hb dX5_split_59 hl (k := 1) rfl (by decide) (by decide) rfl (fun ls hl => ?_)
        refine lv_goto (tgt := 35) hx hb dX5_split_62 (by decide) ?_
        refine lv_iload_n hx hb dX5_split_35 rfl (lv_at hl 0 rfl) ?_
        refine lv_iconst (v := 3) hx hb dX5_split_36 (by decide) ?_
        refine lv_icmp_ge (tgt := 65) hx hb dX5_split_37 (by decide) (fun h => absurd h (by decide)) (fun _ => ?_)
        refine lv_aload_n hx hb dX5_split_40 rfl (lv_at hl 2 rfl) ?_
        refine va_get (D := D) (ci := 5) (v := .ref mA) (C := RX5) (T := TX5) (N := 17) hx hb hts k_2 hown hK.1 hP 0 rfl rfl 9 (by decide) k_4 (fun _ h9 => h9) rfl dX5_split_41 ?_
        refine lv_iconst (v := 4) hx hb dX5_split_44 (by decide) ?_
        refine lv_iload_n hx hb dX5_split_45 rfl (lv_at hl 0 rfl) ?_
        refine lv_imul hx hb dX5_split_46 ?_
        refine lv_eqi (v := 4) (by decide) ?_
        refine ld_l hx hb hK.1 hP 4 1 rfl rfl (ix_lit (by decide)) 4 (by decide) (v := (z5_detOf_f3 gc fx fa c) 4) rfl dX5_split_47 ?_
        refine lv_lconst (v := 0) hx hb dX5_split_48 (by decide) ?_
        refine lb_eq (tgt := 57) hx hb dX5_split_49 rfl dX5_split_50 (by decide) (fun c_4 => ?_) (fun c_4 => ?_)
        · skip
          refine lv_iload_n hx hb dX5_split_57 rfl (lv_at hl 1 rfl) ?_
          refine lv_istore_n (lv' := [(2, .int (-1000001)), (3, .int 1), (0, .ref o), (1, .int c)]) hx hb dX5_split_58 rfl hl (by decide) rfl (fun ls hl => ?_)
          refine lv_iinc (v := 2) (lv' := [(3, .int 2), (2, .int (-1000001)), (0, .ref o), (1, .int c)]) hx hb dX5_split_59 hl (k := 1) rfl (by decide) (by decide) rfl (fun ls hl => ?_)
          refine lv_goto (tgt := 35) hx hb dX5_split_62 (by decide) ?_
          refine lv_iload_n hx hb dX5_split_35 rfl (lv_at hl 0 rfl) ?_
          refine lv_iconst (v := 3) hx hb dX5_split_36 (by decide) ?_
          refine lv_icmp_ge (tgt := 65) hx hb dX5_split_37 (by decide) (fun h => absurd h (by decide)) (fun _ => ?_)
          refine lv_aload_n hx hb dX5_split_40 rfl (lv_at hl 2 rfl) ?_
          refine va_get (D := D) (ci := 5) (v := .ref mA) (C := RX5) (T := TX5) (N := 17) hx hb hts k_2 hown hK.1 hP 0 rfl rfl 9 (by decide) k_4 (fun _ h9 => h9) rfl dX5_split_41 ?_
          refine lv_iconst (v := 4) hx hb dX5_split_44 (by decide) ?_
          refine lv_iload_n hx hb dX5_split_45 rfl (lv_at hl 0 rfl) ?_
          refine lv_imul hx hb dX5_split_46 ?_
          refine lv_eqi (v := 8) (by decide) ?_
          refine ld_l hx hb hK.1 hP 4 1 rfl rfl (ix_lit (by decide)) 8 (by decide) (v := (z5_detOf_f3 gc fx fa c) 8) rfl dX5_split_47 ?_
          refine lv_lconst (v := 0) hx hb dX5_split_48 (by decide) ?_
          refine lb_eq (tgt := 57) hx hb dX5_split_49 rfl dX5_split_50 (by decide) (fun c_5 => ?_) (fun c_5 => ?_)
          · skip
            refine lv_iload_n hx hb dX5_split_57 rfl (lv_at hl 1 rfl) ?_
            refine lv_istore_n (lv' := [(2, .int (-1000001)), (3, .int 2), (0, .ref o), (1, .int c)]) hx hb dX5_split_58 rfl hl (by decide) rfl (fun ls hl => ?_)
            refine lv_iinc (v := 3) (lv' := [(3, .int 3), (2, .int (-1000001)), (0, .ref o), (1, .int c)]) hx hb dX5_split_59 hl (k := 1) rfl (by decide) (by decide) rfl (fun ls hl => ?_)
            refine lv_goto (tgt := 35) hx hb dX5_split_62 (by decide) ?_
            refine lv_iload_n hx hb dX5_split_35 rfl (lv_at hl 0 rfl) ?_
            refine lv_iconst (v := 3) hx hb dX5_split_36 (by decide) ?_
            refine lv_icmp_ge (tgt := 65) hx hb dX5_split_37 (by decide) (fun _ => ?_) (fun h => absurd (by decide) h)
            refine lv_iload_n hx hb dX5_split_65 rfl (lv_at hl 1 rfl) ?_
            refine lv_ldc hx hb hown k_3 dX5_split_66 ?_
            refine lv_icmp_ne (tgt := 78) hx hb dX5_split_68 (by decide) (fun h => absurd (by decide) h) (fun _ => ?_)
            refine lv_aload_n hx hb dX5_split_71 rfl (lv_at hl 2 rfl) ?_
            refine lv_lconst (v := 0) hx hb dX5_split_72 (by decide) ?_
            refine lv_iconst (v := 0) hx hb dX5_split_73 (by decide) ?_
            have hPc := hP.sub (ws' := [kM o mP mL mC mN mF mR mD mV mX mA mK cm mT 0 mU mH mI, kJ mX cJ 9 (z5_detOf_f2 gc fx c), kJ mA cJ 9 (z5_detOf_f3 gc fx fa c), kJ mT cJ 6 ft, kJ mI cJ 3 fi]) [0, 3, 4, 5, 6] rfl
            have hDc := hD.sub (ws' := [kM o mP mL mC mN mF mR mD mV mX mA mK cm mT 0 mU mH mI, kJ mX cJ 9 (z5_detOf_f2 gc fx c), kJ mA cJ 9 (z5_detOf_f3 gc fx fa c), kJ mT cJ 6 ft, kJ mI cJ 3 fi]) [0, 3, 4, 5, 6] (by decide) rfl
            refine cl_i (wc := [kM o mP mL mC mN mF mR mD mV mX mA mK cm mT 0 mU mH mI, kJ mX cJ 9 (z5_detOf_f2 gc fx c), kJ mA cJ 9 (z5_detOf_f3 gc fx fa c), kJ mT cJ 6 ft, kJ mI cJ 3 fi]) (wr := [kA mN cI 3 gm, kA mC cI 360 gc]) (w1 := fun uu : (Nat → Int64) × (Nat → Int64) => [kM o mP mL mC mN mF mR mD mV mX mA mK cm mT ((z5_takeLines_0 (z5_detOf_f2 gc fx c) (z5_detOf_f3 gc fx fa c) ft fi 0).2.1) mU mH mI, kJ mX cJ 9 uu.1, kJ mA cJ 9 (z5_detOf_f3 gc fx fa c), kJ mT cJ 6 ((z5_takeLines_0 (z5_detOf_f2 gc fx c) (z5_detOf_f3 gc fx fa c) ft fi 0).2.2), kJ mI cJ 3 uu.2]) (wn := fun uu : (Nat → Int64) × (Nat → Int64) => [kM o mP mL mC mN mF mR mD mV mX mA mK cm mT ((z5_takeLines_0 (z5_detOf_f2 gc fx c) (z5_detOf_f3 gc fx fa c) ft fi 0).2.1) mU mH mI, kA mN cI 3 gm, kA mC cI 360 gc, kJ mX cJ 9 uu.1, kJ mA cJ 9 (z5_detOf_f3 gc fx fa c), kJ mT cJ 6 ((z5_takeLines_0 (z5_detOf_f2 gc fx c) (z5_detOf_f3 gc fx fa c) ft fi 0).2.2), kJ mI cJ 3 uu.2]) (va_runV (As := [.long 0, .int 0]) (rest := []) ⟨hx, hb, hml, hown, hts⟩ (c_X5_takeLines_0 l D cI cJ o mP mL mC mN mF mR mD mV mX mA mK mT mU mH mI cm 0 (z5_detOf_f2 gc fx c) (z5_detOf_f3 gc fx fa c) ft fi 0 (hy1 c_2 c_3 c_4 c_5) (hy2 c_2 c_3 c_4 c_5) _) (cwV 2 hts gX5_split_X5_takeLines rfl rfl rfl (by decide +kernel) ⟨Nat.le_of_ble_eq_true rfl, Nat.le_of_ble_eq_true rfl⟩) ⟨gd_blP, va_recv hK.1 hPc (ci := 5) (q0 := 0) rfl rfl, gd_prP hPc hK hDc⟩ rfl rfl hl.1 rfl (lv_room (Nat.le_of_ble_eq_true rfl)) dX5_split_74 ⟨Nat.zero_le _, Nat.zero_le _⟩) hP hD hS hA [0, 3, 4, 5, 6] [1, 2] rfl rfl (by decide) (by decide) [2, 0, 1, 3, 4, 5, 6] (by decide) (fun _ => rfl) (fun r_74 uG H locs hw hP hD hS => ?_)
            obtain ⟨y_74_0_1, y_74_1_2⟩ := uG
            have hP : va_P D vwCl [kM o mP mL mC mN mF mR mD mV mX mA mK cm mT ((z5_takeLines_0 (z5_detOf_f2 gc fx c) (z5_detOf_f3 gc fx fa c) ft fi 0).2.1) mU mH mI, kA mN cI 3 gm, kA mC cI 360 gc, kJ mX cJ 9 y_74_0_1, kJ mA cJ 9 (z5_detOf_f3 gc fx fa c), kJ mT cJ 6 ((z5_takeLines_0 (z5_detOf_f2 gc fx c) (z5_detOf_f3 gc fx fa c) ft fi 0).2.2), kJ mI cJ 3 y_74_1_2] H := hP
            have hD : va_D A [kM o mP mL mC mN mF mR mD mV mX mA mK cm mT ((z5_takeLines_0 (z5_detOf_f2 gc fx c) (z5_detOf_f3 gc fx fa c) ft fi 0).2.1) mU mH mI, kA mN cI 3 gm, kA mC cI 360 gc, kJ mX cJ 9 y_74_0_1, kJ mA cJ 9 (z5_detOf_f3 gc fx fa c), kJ mT cJ 6 ((z5_takeLines_0 (z5_detOf_f2 gc fx c) (z5_detOf_f3 gc fx fa c) ft fi 0).2.2), kJ mI cJ 3 y_74_1_2] := hD
            subst hw
            clear hPc hDc
            have he : z5_split pm gm gc fx fa ft fi c = ((z5_takeLines_0 (z5_detOf_f2 gc fx c) (z5_detOf_f3 gc fx fa c) ft fi 0).1, (z5_takeLines_0 (z5_detOf_f2 gc fx c) (z5_detOf_f3 gc fx fa c) ft fi 0).2.1, (z5_takeLines_0 (z5_detOf_f2 gc fx c) (z5_detOf_f3 gc fx fa c) ft fi 0).2.2) := by unfold z5_split; rw [if_neg c_1, if_pos c_2, if_pos c_3, if_pos c_4, if_pos c_5]
            have he_0 : (z5_split pm gm gc fx fa ft fi c).1 = (z5_takeLines_0 (z5_detOf_f2 gc fx c) (z5_detOf_f3 gc fx fa c) ft fi 0).1 := by rw [he]
            have he_1 : (z5_split pm gm gc fx fa ft fi c).2.1 = (z5_takeLines_0 (z5_detOf_f2 gc fx c) (z5_detOf_f3 gc fx fa c) ft fi 0).2.1 := by rw [he]
            have he_2 : (z5_split pm gm gc fx fa ft fi c).2.2 = (z5_takeLines_0 (z5_detOf_f2 gc fx c) (z5_detOf_f3 gc fx fa c) ft fi 0).2.2 := by rw [he]
            exact rt_i (w1 := fun uu : (Nat → Int64) × (Nat → Int64) × (Nat → Int64) => [kM o mP mL mC mN mF mR mD mV mX mA mK cm mT ((z5_split pm gm gc fx fa ft fi c).2.1) mU mH mI, kA mN cI 3 gm, kA mC cI 360 gc, kJ mX cJ 9 uu.1, kJ mA cJ 9 uu.2.1, kJ mT cJ 6 ((z5_split pm gm gc fx fa ft fi c).2.2), kJ mI cJ 3 uu.2.2]) hx hb hr hlk hS dX5_split_77 ((y_74_0_1, (z5_detOf_f3 gc fx fa c), y_74_1_2)) he_0.symm (by (try dsimp only); rw [he_1, he_2]; exact hP) (by (try dsimp only); rw [he_1, he_2]; exact hD)
          · skip
            refine lv_iload_n hx hb dX5_split_53 rfl (lv_at hl 0 rfl) ?_
            refine lv_goto (tgt := 58) hx hb dX5_split_54 (by decide) ?_
            refine lv_istore_n (lv' := [(2, .int 2), (3, .int 2), (0, .ref o), (1, .int c)]) hx hb dX5_split_58 rfl hl (by decide) rfl (fun ls hl => ?_)
            refine lv_iinc (v := 3) (lv' := [(3, .int 3), (2, .int 2), (0, .ref o), (1, .int c)]) hx hb dX5_split_59 hl (k := 1) rfl (by decide) (by decide) rfl (fun ls hl => ?_)
            refine lv_goto (tgt := 35) hx hb dX5_split_62 (by decide) ?_
            refine lv_iload_n hx hb dX5_split_35 rfl (lv_at hl 0 rfl) ?_
            refine lv_iconst (v := 3) hx hb dX5_split_36 (by decide) ?_
            refine lv_icmp_ge (tgt := 65) hx hb dX5_split_37 (by decide) (fun _ => ?_) (fun h => absurd (by decide) h)
            refine lv_iload_n hx hb dX5_split_65 rfl (lv_at hl 1 rfl) ?_
            refine lv_ldc hx hb hown k_3 dX5_split_66 ?_
            refine lv_icmp_ne (tgt := 78) hx hb dX5_split_68 (by decide) (fun _ => ?_) (fun h => absurd h (by decide))
            refine lv_aload_n hx hb dX5_split_78 rfl (lv_at hl 2 rfl) ?_
            refine va_get (D := D) (ci := 5) (v := .ref mA) (C := RX5) (T := TX5) (N := 17) hx hb hts k_2 hown hK.1 hP 0 rfl rfl 9 (by decide) k_4 (fun _ h9 => h9) rfl dX5_split_79 ?_
            refine lv_iconst (v := 4) hx hb dX5_split_82 (by decide) ?_
            refine lv_iload_n hx hb dX5_split_83 rfl (lv_at hl 1 rfl) ?_
            refine lv_imul hx hb dX5_split_84 ?_
            refine lv_eqi (v := 8) (by decide) ?_
            refine ld_l hx hb hK.1 hP 4 1 rfl rfl (ix_lit (by decide)) 8 (by decide) (v := (z5_detOf_f3 gc fx fa c) 8) rfl dX5_split_85 ?_
            refine lv_lconst (v := 0) hx hb dX5_split_86 (by decide) ?_
            refine lb_le (tgt := 93) hx hb dX5_split_87 rfl dX5_split_88 (by decide) (fun c_6 => ?_) (fun c_6 => ?_)
            · skip
              refine lv_aload_n hx hb dX5_split_93 rfl (lv_at hl 2 rfl) ?_
              refine va_get (D := D) (ci := 5) (v := .ref mA) (C := RX5) (T := TX5) (N := 17) hx hb hts k_2 hown hK.1 hP 0 rfl rfl 9 (by decide) k_4 (fun _ h9 => h9) rfl dX5_split_94 ?_
              refine lv_iconst (v := 4) hx hb dX5_split_97 (by decide) ?_
              refine lv_iload_n hx hb dX5_split_98 rfl (lv_at hl 1 rfl) ?_
              refine lv_imul hx hb dX5_split_99 ?_
              refine lv_eqi (v := 8) (by decide) ?_
              refine ld_l hx hb hK.1 hP 4 1 rfl rfl (ix_lit (by decide)) 8 (by decide) (v := (z5_detOf_f3 gc fx fa c) 8) rfl dX5_split_100 ?_
              refine lv_lneg hx hb dX5_split_101 ?_
              have hPc := hP.sub (ws' := []) [] rfl
              refine cr_l (va_runS (As := [.long (-((z5_detOf_f3 gc fx fa c) 8))]) (rest := []) ⟨hx, hb, hml, hown, hts⟩ (c_X5_rootOf l D cI cJ (-((z5_detOf_f3 gc fx fa c) 8))) (va_cwS 1 hts gX5_split_X5_rootOf rfl rfl rfl (by decide +kernel) ⟨Nat.le_of_ble_eq_true rfl, Nat.le_of_ble_eq_true rfl⟩) ⟨gd_blR, gd_prR hPc hK⟩ rfl rfl hl.1 rfl (lv_room (Nat.le_of_ble_eq_true rfl)) dX5_split_102 ⟨Nat.zero_le _, Nat.zero_le _⟩) (fun r_102 hw => ?_)
              subst hw
              clear hPc
              refine lv_lstore_n (lv' := [(3, .long (z5_rootOf (-((z5_detOf_f3 gc fx fa c) 8)))), (2, .int 2), (0, .ref o), (1, .int c)]) hx hb dX5_split_105 rfl hl (by decide) rfl (fun ls hl => ?_)
              refine lv_lload_n hx hb dX5_split_106 rfl (lv_at hl 0 rfl) ?_
              refine lv_lload_n hx hb dX5_split_107 rfl (lv_at hl 0 rfl) ?_
              refine lv_lmul hx hb dX5_split_108 ?_
              refine lv_aload_n hx hb dX5_split_109 rfl (lv_at hl 2 rfl) ?_
              refine va_get (D := D) (ci := 5) (v := .ref mA) (C := RX5) (T := TX5) (N := 17) hx hb hts k_2 hown hK.1 hP 0 rfl rfl 9 (by decide) k_4 (fun _ h9 => h9) rfl dX5_split_110 ?_
              refine lv_iconst (v := 4) hx hb dX5_split_113 (by decide) ?_
              refine lv_iload_n hx hb dX5_split_114 rfl (lv_at hl 1 rfl) ?_
              refine lv_imul hx hb dX5_split_115 ?_
              refine lv_eqi (v := 8) (by decide) ?_
              refine ld_l hx hb hK.1 hP 4 1 rfl rfl (ix_lit (by decide)) 8 (by decide) (v := (z5_detOf_f3 gc fx fa c) 8) rfl dX5_split_116 ?_
              refine lv_lneg hx hb dX5_split_117 ?_
              refine lb_eq (tgt := 126) hx hb dX5_split_118 rfl dX5_split_119 (by decide) (fun c_7 => ?_) (fun c_7 => ?_)
              · skip
                refine lv_aload_n hx hb dX5_split_126 rfl (lv_at hl 2 rfl) ?_
                refine lv_lload_n hx hb dX5_split_127 rfl (lv_at hl 0 rfl) ?_
                refine lv_iload_n hx hb dX5_split_128 rfl (lv_at hl 1 rfl) ?_
                have hPc := hP.sub (ws' := [kM o mP mL mC mN mF mR mD mV mX mA mK cm mT 0 mU mH mI, kJ mX cJ 9 (z5_detOf_f2 gc fx c), kJ mA cJ 9 (z5_detOf_f3 gc fx fa c), kJ mT cJ 6 ft, kJ mI cJ 3 fi]) [0, 3, 4, 5, 6] rfl
                have hDc := hD.sub (ws' := [kM o mP mL mC mN mF mR mD mV mX mA mK cm mT 0 mU mH mI, kJ mX cJ 9 (z5_detOf_f2 gc fx c), kJ mA cJ 9 (z5_detOf_f3 gc fx fa c), kJ mT cJ 6 ft, kJ mI cJ 3 fi]) [0, 3, 4, 5, 6] (by decide) rfl
                refine cl_i (wc := [kM o mP mL mC mN mF mR mD mV mX mA mK cm mT 0 mU mH mI, kJ mX cJ 9 (z5_detOf_f2 gc fx c), kJ mA cJ 9 (z5_detOf_f3 gc fx fa c), kJ mT cJ 6 ft, kJ mI cJ 3 fi]) (wr := [kA mN cI 3 gm, kA mC cI 360 gc]) (w1 := fun uu : (Nat → Int64) × (Nat → Int64) => [kM o mP mL mC mN mF mR mD mV mX mA mK cm mT ((z5_takeLines_2 (z5_detOf_f2 gc fx c) (z5_detOf_f3 gc fx fa c) ft fi (z5_rootOf (-((z5_detOf_f3 gc fx fa c) 8)))).2.1) mU mH mI, kJ mX cJ 9 uu.1, kJ mA cJ 9 (z5_detOf_f3 gc fx fa c), kJ mT cJ 6 ((z5_takeLines_2 (z5_detOf_f2 gc fx c) (z5_detOf_f3 gc fx fa c) ft fi (z5_rootOf (-((z5_detOf_f3 gc fx fa c) 8)))).2.2), kJ mI cJ 3 uu.2]) (wn := fun uu : (Nat → Int64) × (Nat → Int64) => [kM o mP mL mC mN mF mR mD mV mX mA mK cm mT ((z5_takeLines_2 (z5_detOf_f2 gc fx c) (z5_detOf_f3 gc fx fa c) ft fi (z5_rootOf (-((z5_detOf_f3 gc fx fa c) 8)))).2.1) mU mH mI, kA mN cI 3 gm, kA mC cI 360 gc, kJ mX cJ 9 uu.1, kJ mA cJ 9 (z5_detOf_f3 gc fx fa c), kJ mT cJ 6 ((z5_takeLines_2 (z5_detOf_f2 gc fx c) (z5_detOf_f3 gc fx fa c) ft fi (z5_rootOf (-((z5_detOf_f3 gc fx fa c) 8)))).2.2), kJ mI cJ 3 uu.2]) (va_runV (As := [.long (z5_rootOf (-((z5_detOf_f3 gc fx fa c) 8))), .int 2]) (rest := []) ⟨hx, hb, hml, hown, hts⟩ (c_X5_takeLines_2 l D cI cJ o mP mL mC mN mF mR mD mV mX mA mK mT mU mH mI cm 0 (z5_detOf_f2 gc fx c) (z5_detOf_f3 gc fx fa c) ft fi (z5_rootOf (-((z5_detOf_f3 gc fx fa c) 8))) (hy3 c_2 c_3 c_4 c_5 c_6 c_7) (hy4 c_2 c_3 c_4 c_5 c_6 c_7) _) (cwV 2 hts gX5_split_X5_takeLines rfl rfl rfl (by decide +kernel) ⟨Nat.le_of_ble_eq_true rfl, Nat.le_of_ble_eq_true rfl⟩) ⟨gd_blP, va_recv hK.1 hPc (ci := 5) (q0 := 0) rfl rfl, gd_prP hPc hK hDc⟩ rfl rfl hl.1 rfl (lv_room (Nat.le_of_ble_eq_true rfl)) dX5_split_129 ⟨Nat.zero_le _, Nat.zero_le _⟩) hP hD hS hA [0, 3, 4, 5, 6] [1, 2] rfl rfl (by decide) (by decide) [2, 0, 1, 3, 4, 5, 6] (by decide) (fun _ => rfl) (fun r_129 uG H locs hw hP hD hS => ?_)
                obtain ⟨y_129_0_3, y_129_1_4⟩ := uG
                have hP : va_P D vwCl [kM o mP mL mC mN mF mR mD mV mX mA mK cm mT ((z5_takeLines_2 (z5_detOf_f2 gc fx c) (z5_detOf_f3 gc fx fa c) ft fi (z5_rootOf (-((z5_detOf_f3 gc fx fa c) 8)))).2.1) mU mH mI, kA mN cI 3 gm, kA mC cI 360 gc, kJ mX cJ 9 y_129_0_3, kJ mA cJ 9 (z5_detOf_f3 gc fx fa c), kJ mT cJ 6 ((z5_takeLines_2 (z5_detOf_f2 gc fx c) (z5_detOf_f3 gc fx fa c) ft fi (z5_rootOf (-((z5_detOf_f3 gc fx fa c) 8)))).2.2), kJ mI cJ 3 y_129_1_4] H := hP
                have hD : va_D A [kM o mP mL mC mN mF mR mD mV mX mA mK cm mT ((z5_takeLines_2 (z5_detOf_f2 gc fx c) (z5_detOf_f3 gc fx fa c) ft fi (z5_rootOf (-((z5_detOf_f3 gc fx fa c) 8)))).2.1) mU mH mI, kA mN cI 3 gm, kA mC cI 360 gc, kJ mX cJ 9 y_129_0_3, kJ mA cJ 9 (z5_detOf_f3 gc fx fa c), kJ mT cJ 6 ((z5_takeLines_2 (z5_detOf_f2 gc fx c) (z5_detOf_f3 gc fx fa c) ft fi (z5_rootOf (-((z5_detOf_f3 gc fx fa c) 8)))).2.2), kJ mI cJ 3 y_129_1_4] := hD
                have ea_0 : (z5_takeLines_2 (z5_detOf_f2 gc fx c) (z5_detOf_f3 gc fx fa c) ft fi (z5_rootOf (-((z5_detOf_f3 gc fx fa c) 8)))).2.1 = z5_split_v1 gc fx fa ft fi c := by delta z5_split_v1; rfl
                have ea_1 : (z5_takeLines_2 (z5_detOf_f2 gc fx c) (z5_detOf_f3 gc fx fa c) ft fi (z5_rootOf (-((z5_detOf_f3 gc fx fa c) 8)))).2.2 = z5_split_v2 gc fx fa ft fi c := by delta z5_split_v2; rfl
                rw [ea_0, ea_1] at hP hD
                clear ea_0 ea_1
                subst hw
                refine lv_eqi (v := z5_split_v3 gc fx fa ft fi c) (by delta z5_split_v3; rfl) ?_
                clear hPc hDc
                have he : z5_split pm gm gc fx fa ft fi c = (z5_split_v3 gc fx fa ft fi c, z5_split_v1 gc fx fa ft fi c, z5_split_v2 gc fx fa ft fi c) := by unfold z5_split; rw [if_neg c_1, if_pos c_2, if_pos c_3, if_pos c_4, if_neg c_5, if_pos c_6, if_pos c_7]
                have he_0 : (z5_split pm gm gc fx fa ft fi c).1 = z5_split_v3 gc fx fa ft fi c := by rw [he]
                have he_1 : (z5_split pm gm gc fx fa ft fi c).2.1 = z5_split_v1 gc fx fa ft fi c := by rw [he]
                have he_2 : (z5_split pm gm gc fx fa ft fi c).2.2 = z5_split_v2 gc fx fa ft fi c := by rw [he]
                exact rt_i (w1 := fun uu : (Nat → Int64) × (Nat → Int64) × (Nat → Int64) => [kM o mP mL mC mN mF mR mD mV mX mA mK cm mT ((z5_split pm gm gc fx fa ft fi c).2.1) mU mH mI, kA mN cI 3 gm, kA mC cI 360 gc, kJ mX cJ 9 uu.1, kJ mA cJ 9 uu.2.1, kJ mT cJ 6 ((z5_split pm gm gc fx fa ft fi c).2.2), kJ mI cJ 3 uu.2.2]) hx hb hr hlk hS dX5_split_132 ((y_129_0_3, (z5_detOf_f3 gc fx fa c), y_129_1_4)) he_0.symm (by (try dsimp only); rw [he_1, he_2]; exact hP) (by (try dsimp only); rw [he_1, he_2]; exact hD)
              · skip
                refine lv_iconst (v := 4) hx hb dX5_split_122 (by decide) ?_
                refine lv_goto (tgt := 132) hx hb dX5_split_123 (by decide) ?_
                have he : z5_split pm gm gc fx fa ft fi c = (4, 0, ft) := by unfold z5_split; rw [if_neg c_1, if_pos c_2, if_pos c_3, if_pos c_4, if_neg c_5, if_pos c_6, if_neg c_7]
                have he_0 : (z5_split pm gm gc fx fa ft fi c).1 = 4 := by rw [he]
                have he_1 : (z5_split pm gm gc fx fa ft fi c).2.1 = 0 := by rw [he]
                have he_2 : (z5_split pm gm gc fx fa ft fi c).2.2 = ft := by rw [he]
                exact rt_i (w1 := fun uu : (Nat → Int64) × (Nat → Int64) × (Nat → Int64) => [kM o mP mL mC mN mF mR mD mV mX mA mK cm mT ((z5_split pm gm gc fx fa ft fi c).2.1) mU mH mI, kA mN cI 3 gm, kA mC cI 360 gc, kJ mX cJ 9 uu.1, kJ mA cJ 9 uu.2.1, kJ mT cJ 6 ((z5_split pm gm gc fx fa ft fi c).2.2), kJ mI cJ 3 uu.2.2]) hx hb hr hlk hS dX5_split_132 ((z5_detOf_f2 gc fx c, z5_detOf_f3 gc fx fa c, fi)) he_0.symm (by (try dsimp only); rw [he_1, he_2]; exact hP) (by (try dsimp only); rw [he_1, he_2]; exact hD)
            · skip
              refine lv_iconst (v := 0) hx hb dX5_split_91 (by decide) ?_
              have he : z5_split pm gm gc fx fa ft fi c = (0, 0, ft) := by unfold z5_split; rw [if_neg c_1, if_pos c_2, if_pos c_3, if_pos c_4, if_neg c_5, if_neg c_6]
              have he_0 : (z5_split pm gm gc fx fa ft fi c).1 = 0 := by rw [he]
              have he_1 : (z5_split pm gm gc fx fa ft fi c).2.1 = 0 := by rw [he]
              have he_2 : (z5_split pm gm gc fx fa ft fi c).2.2 = ft := by rw [he]
              exact rt_i (w1 := fun uu : (Nat → Int64) × (Nat → Int64) × (Nat → Int64) => [kM o mP mL mC mN mF mR mD mV mX mA mK cm mT ((z5_split pm gm gc fx fa ft fi c).2.1) mU mH mI, kA mN cI 3 gm, kA mC cI 360 gc, kJ mX cJ 9 uu.1, kJ mA cJ 9 uu.2.1, kJ mT cJ 6 ((z5_split pm gm gc fx fa ft fi c).2.2), kJ mI cJ 3 uu.2.2]) hx hb hr hlk hS dX5_split_92 ((z5_detOf_f2 gc fx c, z5_detOf_f3 gc fx fa c, fi)) he_0.symm (by (try dsimp only); rw [he_1, he_2]; exact hP) (by (try dsimp only); rw [he_1, he_2]; exact hD)
        · skip
          refine lv_iload_n hx hb dX5_split_53 rfl (lv_at hl 0 rfl) ?_
          refine lv_goto (tgt := 58) hx hb dX5_split_54 (by decide) ?_
          refine lv_istore_n (lv' := [(2, .int 1), (3, .int 1), (0, .ref o), (1, .int c)]) hx hb dX5_split_58 rfl hl (by decide) rfl (fun ls hl => ?_)
          refine lv_iinc (v := 2) (lv' := [(3, .int 2), (2, .int 1), (0, .ref o), (1, .int c)]) hx hb dX5_split_59 hl (k := 1) rfl (by decide) (by decide) rfl (fun ls hl => ?_)
          refine lv_goto (tgt := 35) hx hb dX5_split_62 (by decide) ?_
          refine lv_iload_n hx hb dX5_split_35 rfl (lv_at hl 0 rfl) ?_
          refine lv_iconst (v := 3) hx hb dX5_split_36 (by decide) ?_
          refine lv_icmp_ge (tgt := 65) hx hb dX5_split_37 (by decide) (fun h => absurd h (by decide)) (fun _ => ?_)
          refine lv_aload_n hx hb dX5_split_40 rfl (lv_at hl 2 rfl) ?_
          refine va_get (D := D) (ci := 5) (v := .ref mA) (C := RX5) (T := TX5) (N := 17) hx hb hts k_2 hown hK.1 hP 0 rfl rfl 9 (by decide) k_4 (fun _ h9 => h9) rfl dX5_split_41 ?_
          refine lv_iconst (v := 4) hx hb dX5_split_44 (by decide) ?_
          refine lv_iload_n hx hb dX5_split_45 rfl (lv_at hl 0 rfl) ?_
          refine lv_imul hx hb dX5_split_46 ?_
          refine lv_eqi (v := 8) (by decide) ?_
          refine ld_l hx hb hK.1 hP 4 1 rfl rfl (ix_lit (by decide)) 8 (by decide) (v := (z5_detOf_f3 gc fx fa c) 8) rfl dX5_split_47 ?_
          refine lv_lconst (v := 0) hx hb dX5_split_48 (by decide) ?_
          refine lb_eq (tgt := 57) hx hb dX5_split_49 rfl dX5_split_50 (by decide) (fun c_8 => ?_) (fun c_8 => ?_)
          · skip
            refine lv_iload_n hx hb dX5_split_57 rfl (lv_at hl 1 rfl) ?_
            refine lv_istore_n (lv' := [(2, .int 1), (3, .int 2), (0, .ref o), (1, .int c)]) hx hb dX5_split_58 rfl hl (by decide) rfl (fun ls hl => ?_)
            refine lv_iinc (v := 3) (lv' := [(3, .int 3), (2, .int 1), (0, .ref o), (1, .int c)]) hx hb dX5_split_59 hl (k := 1) rfl (by decide) (by decide) rfl (fun ls hl => ?_)
            refine lv_goto (tgt := 35) hx hb dX5_split_62 (by decide) ?_
            refine lv_iload_n hx hb dX5_split_35 rfl (lv_at hl 0 rfl) ?_
            refine lv_iconst (v := 3) hx hb dX5_split_36 (by decide) ?_
            refine lv_icmp_ge (tgt := 65) hx hb dX5_split_37 (by decide) (fun _ => ?_) (fun h => absurd (by decide) h)
            refine lv_iload_n hx hb dX5_split_65 rfl (lv_at hl 1 rfl) ?_
            refine lv_ldc hx hb hown k_3 dX5_split_66 ?_
            refine lv_icmp_ne (tgt := 78) hx hb dX5_split_68 (by decide) (fun _ => ?_) (fun h => absurd h (by decide))
            refine lv_aload_n hx hb dX5_split_78 rfl (lv_at hl 2 rfl) ?_
            refine va_get (D := D) (ci := 5) (v := .ref mA) (C := RX5) (T := TX5) (N := 17) hx hb hts k_2 hown hK.1 hP 0 rfl rfl 9 (by decide) k_4 (fun _ h9 => h9) rfl dX5_split_79 ?_
            refine lv_iconst (v := 4) hx hb dX5_split_82 (by decide) ?_
            refine lv_iload_n hx hb dX5_split_83 rfl (lv_at hl 1 rfl) ?_
            refine lv_imul hx hb dX5_split_84 ?_
            refine lv_eqi (v := 4) (by decide) ?_
            refine ld_l hx hb hK.1 hP 4 1 rfl rfl (ix_lit (by decide)) 4 (by decide) (v := (z5_detOf_f3 gc fx fa c) 4) rfl dX5_split_85 ?_
            refine lv_lconst (v := 0) hx hb dX5_split_86 (by decide) ?_
            refine lb_le (tgt := 93) hx hb dX5_split_87 rfl dX5_split_88 (by decide) (fun c_9 => ?_) (fun c_9 => ?_)
            · skip
              refine lv_aload_n hx hb dX5_split_93 rfl (lv_at hl 2 rfl) ?_
              refine va_get (D := D) (ci := 5) (v := .ref mA) (C := RX5) (T := TX5) (N := 17) hx hb hts k_2 hown hK.1 hP 0 rfl rfl 9 (by decide) k_4 (fun _ h9 => h9) rfl dX5_split_94 ?_
              refine lv_iconst (v := 4) hx hb dX5_split_97 (by decide) ?_
              refine lv_iload_n hx hb dX5_split_98 rfl (lv_at hl 1 rfl) ?_
              refine lv_imul hx hb dX5_split_99 ?_
              refine lv_eqi (v := 4) (by decide) ?_
              refine ld_l hx hb hK.1 hP 4 1 rfl rfl (ix_lit (by decide)) 4 (by decide) (v := (z5_detOf_f3 gc fx fa c) 4) rfl dX5_split_100 ?_
              refine lv_lneg hx hb dX5_split_101 ?_
              have hPc := hP.sub (ws' := []) [] rfl
              refine cr_l (va_runS (As := [.long (-((z5_detOf_f3 gc fx fa c) 4))]) (rest := []) ⟨hx, hb, hml, hown, hts⟩ (c_X5_rootOf l D cI cJ (-((z5_detOf_f3 gc fx fa c) 4))) (va_cwS 1 hts gX5_split_X5_rootOf rfl rfl rfl (by decide +kernel) ⟨Nat.le_of_ble_eq_true rfl, Nat.le_of_ble_eq_true rfl⟩) ⟨gd_blR, gd_prR hPc hK⟩ rfl rfl hl.1 rfl (lv_room (Nat.le_of_ble_eq_true rfl)) dX5_split_102 ⟨Nat.zero_le _, Nat.zero_le _⟩) (fun r_102 hw => ?_)
              subst hw
              clear hPc
              refine lv_lstore_n (lv' := [(3, .long (z5_rootOf (-((z5_detOf_f3 gc fx fa c) 4)))), (2, .int 1), (0, .ref o), (1, .int c)]) hx hb dX5_split_105 rfl hl (by decide) rfl (fun ls hl => ?_)
              refine lv_lload_n hx hb dX5_split_106 rfl (lv_at hl 0 rfl) ?_
              refine lv_lload_n hx hb dX5_split_107 rfl (lv_at hl 0 rfl) ?_
              refine lv_lmul hx hb dX5_split_108 ?_
              refine lv_aload_n hx hb dX5_split_109 rfl (lv_at hl 2 rfl) ?_
              refine va_get (D := D) (ci := 5) (v := .ref mA) (C := RX5) (T := TX5) (N := 17) hx hb hts k_2 hown hK.1 hP 0 rfl rfl 9 (by decide) k_4 (fun _ h9 => h9) rfl dX5_split_110 ?_
              refine lv_iconst (v := 4) hx hb dX5_split_113 (by decide) ?_
              refine lv_iload_n hx hb dX5_split_114 rfl (lv_at hl 1 rfl) ?_
              refine lv_imul hx hb dX5_split_115 ?_
              refine lv_eqi (v := 4) (by decide) ?_
              refine ld_l hx hb hK.1 hP 4 1 rfl rfl (ix_lit (by decide)) 4 (by decide) (v := (z5_detOf_f3 gc fx fa c) 4) rfl dX5_split_116 ?_
              refine lv_lneg hx hb dX5_split_117 ?_
              refine lb_eq (tgt := 126) hx hb dX5_split_118 rfl dX5_split_119 (by decide) (fun c_10 => ?_) (fun c_10 => ?_)
              · skip
                refine lv_aload_n hx hb dX5_split_126 rfl (lv_at hl 2 rfl) ?_
                refine lv_lload_n hx hb dX5_split_127 rfl (lv_at hl 0 rfl) ?_
                refine lv_iload_n hx hb dX5_split_128 rfl (lv_at hl 1 rfl) ?_
                have hPc := hP.sub (ws' := [kM o mP mL mC mN mF mR mD mV mX mA mK cm mT 0 mU mH mI, kJ mX cJ 9 (z5_detOf_f2 gc fx c), kJ mA cJ 9 (z5_detOf_f3 gc fx fa c), kJ mT cJ 6 ft, kJ mI cJ 3 fi]) [0, 3, 4, 5, 6] rfl
                have hDc := hD.sub (ws' := [kM o mP mL mC mN mF mR mD mV mX mA mK cm mT 0 mU mH mI, kJ mX cJ 9 (z5_detOf_f2 gc fx c), kJ mA cJ 9 (z5_detOf_f3 gc fx fa c), kJ mT cJ 6 ft, kJ mI cJ 3 fi]) [0, 3, 4, 5, 6] (by decide) rfl
                refine cl_i (wc := [kM o mP mL mC mN mF mR mD mV mX mA mK cm mT 0 mU mH mI, kJ mX cJ 9 (z5_detOf_f2 gc fx c), kJ mA cJ 9 (z5_detOf_f3 gc fx fa c), kJ mT cJ 6 ft, kJ mI cJ 3 fi]) (wr := [kA mN cI 3 gm, kA mC cI 360 gc]) (w1 := fun uu : (Nat → Int64) × (Nat → Int64) => [kM o mP mL mC mN mF mR mD mV mX mA mK cm mT ((z5_takeLines_1 (z5_detOf_f2 gc fx c) (z5_detOf_f3 gc fx fa c) ft fi (z5_rootOf (-((z5_detOf_f3 gc fx fa c) 4)))).2.1) mU mH mI, kJ mX cJ 9 uu.1, kJ mA cJ 9 (z5_detOf_f3 gc fx fa c), kJ mT cJ 6 ((z5_takeLines_1 (z5_detOf_f2 gc fx c) (z5_detOf_f3 gc fx fa c) ft fi (z5_rootOf (-((z5_detOf_f3 gc fx fa c) 4)))).2.2), kJ mI cJ 3 uu.2]) (wn := fun uu : (Nat → Int64) × (Nat → Int64) => [kM o mP mL mC mN mF mR mD mV mX mA mK cm mT ((z5_takeLines_1 (z5_detOf_f2 gc fx c) (z5_detOf_f3 gc fx fa c) ft fi (z5_rootOf (-((z5_detOf_f3 gc fx fa c) 4)))).2.1) mU mH mI, kA mN cI 3 gm, kA mC cI 360 gc, kJ mX cJ 9 uu.1, kJ mA cJ 9 (z5_detOf_f3 gc fx fa c), kJ mT cJ 6 ((z5_takeLines_1 (z5_detOf_f2 gc fx c) (z5_detOf_f3 gc fx fa c) ft fi (z5_rootOf (-((z5_detOf_f3 gc fx fa c) 4)))).2.2), kJ mI cJ 3 uu.2]) (va_runV (As := [.long (z5_rootOf (-((z5_detOf_f3 gc fx fa c) 4))), .int 1]) (rest := []) ⟨hx, hb, hml, hown, hts⟩ (c_X5_takeLines_1 l D cI cJ o mP mL mC mN mF mR mD mV mX mA mK mT mU mH mI cm 0 (z5_detOf_f2 gc fx c) (z5_detOf_f3 gc fx fa c) ft fi (z5_rootOf (-((z5_detOf_f3 gc fx fa c) 4))) (hy5 c_2 c_3 c_4 c_8 c_9 c_10) (hy6 c_2 c_3 c_4 c_8 c_9 c_10) _) (cwV 2 hts gX5_split_X5_takeLines rfl rfl rfl (by decide +kernel) ⟨Nat.le_of_ble_eq_true rfl, Nat.le_of_ble_eq_true rfl⟩) ⟨gd_blP, va_recv hK.1 hPc (ci := 5) (q0 := 0) rfl rfl, gd_prP hPc hK hDc⟩ rfl rfl hl.1 rfl (lv_room (Nat.le_of_ble_eq_true rfl)) dX5_split_129 ⟨Nat.zero_le _, Nat.zero_le _⟩) hP hD hS hA [0, 3, 4, 5, 6] [1, 2] rfl rfl (by decide) (by decide) [2, 0, 1, 3, 4, 5, 6] (by decide) (fun _ => rfl) (fun r_129 uG H locs hw hP hD hS => ?_)
                obtain ⟨y_129_0_5, y_129_1_6⟩ := uG
                have hP : va_P D vwCl [kM o mP mL mC mN mF mR mD mV mX mA mK cm mT ((z5_takeLines_1 (z5_detOf_f2 gc fx c) (z5_detOf_f3 gc fx fa c) ft fi (z5_rootOf (-((z5_detOf_f3 gc fx fa c) 4)))).2.1) mU mH mI, kA mN cI 3 gm, kA mC cI 360 gc, kJ mX cJ 9 y_129_0_5, kJ mA cJ 9 (z5_detOf_f3 gc fx fa c), kJ mT cJ 6 ((z5_takeLines_1 (z5_detOf_f2 gc fx c) (z5_detOf_f3 gc fx fa c) ft fi (z5_rootOf (-((z5_detOf_f3 gc fx fa c) 4)))).2.2), kJ mI cJ 3 y_129_1_6] H := hP
                have hD : va_D A [kM o mP mL mC mN mF mR mD mV mX mA mK cm mT ((z5_takeLines_1 (z5_detOf_f2 gc fx c) (z5_detOf_f3 gc fx fa c) ft fi (z5_rootOf (-((z5_detOf_f3 gc fx fa c) 4)))).2.1) mU mH mI, kA mN cI 3 gm, kA mC cI 360 gc, kJ mX cJ 9 y_129_0_5, kJ mA cJ 9 (z5_detOf_f3 gc fx fa c), kJ mT cJ 6 ((z5_takeLines_1 (z5_detOf_f2 gc fx c) (z5_detOf_f3 gc fx fa c) ft fi (z5_rootOf (-((z5_detOf_f3 gc fx fa c) 4)))).2.2), kJ mI cJ 3 y_129_1_6] := hD
                have ea_0 : (z5_takeLines_1 (z5_detOf_f2 gc fx c) (z5_detOf_f3 gc fx fa c) ft fi (z5_rootOf (-((z5_detOf_f3 gc fx fa c) 4)))).2.1 = z5_split_v4 gc fx fa ft fi c := by delta z5_split_v4; rfl
                have ea_1 : (z5_takeLines_1 (z5_detOf_f2 gc fx c) (z5_detOf_f3 gc fx fa c) ft fi (z5_rootOf (-((z5_detOf_f3 gc fx fa c) 4)))).2.2 = z5_split_v5 gc fx fa ft fi c := by delta z5_split_v5; rfl
                rw [ea_0, ea_1] at hP hD
                clear ea_0 ea_1
                subst hw
                refine lv_eqi (v := z5_split_v6 gc fx fa ft fi c) (by delta z5_split_v6; rfl) ?_
                clear hPc hDc
                have he : z5_split pm gm gc fx fa ft fi c = (z5_split_v6 gc fx fa ft fi c, z5_split_v4 gc fx fa ft fi c, z5_split_v5 gc fx fa ft fi c) := by unfold z5_split; rw [if_neg c_1, if_pos c_2, if_pos c_3, if_neg c_4, if_pos c_8, if_pos c_9, if_pos c_10]
                have he_0 : (z5_split pm gm gc fx fa ft fi c).1 = z5_split_v6 gc fx fa ft fi c := by rw [he]
                have he_1 : (z5_split pm gm gc fx fa ft fi c).2.1 = z5_split_v4 gc fx fa ft fi c := by rw [he]
                have he_2 : (z5_split pm gm gc fx fa ft fi c).2.2 = z5_split_v5 gc fx fa ft fi c := by rw [he]
                exact rt_i (w1 := fun uu : (Nat → Int64) × (Nat → Int64) × (Nat → Int64) => [kM o mP mL mC mN mF mR mD mV mX mA mK cm mT ((z5_split pm gm gc fx fa ft fi c).2.1) mU mH mI, kA mN cI 3 gm, kA mC cI 360 gc, kJ mX cJ 9 uu.1, kJ mA cJ 9 uu.2.1, kJ mT cJ 6 ((z5_split pm gm gc fx fa ft fi c).2.2), kJ mI cJ 3 uu.2.2]) hx hb hr hlk hS dX5_split_132 ((y_129_0_5, (z5_detOf_f3 gc fx fa c), y_129_1_6)) he_0.symm (by (try dsimp only); rw [he_1, he_2]; exact hP) (by (try dsimp only); rw [he_1, he_2]; exact hD)
              · skip
                refine lv_iconst (v := 4) hx hb dX5_split_122 (by decide) ?_
                refine lv_goto (tgt := 132) hx hb dX5_split_123 (by decide) ?_
                have he : z5_split pm gm gc fx fa ft fi c = (4, 0, ft) := by unfold z5_split; rw [if_neg c_1, if_pos c_2, if_pos c_3, if_neg c_4, if_pos c_8, if_pos c_9, if_neg c_10]
                have he_0 : (z5_split pm gm gc fx fa ft fi c).1 = 4 := by rw [he]
                have he_1 : (z5_split pm gm gc fx fa ft fi c).2.1 = 0 := by rw [he]
                have he_2 : (z5_split pm gm gc fx fa ft fi c).2.2 = ft := by rw [he]
                exact rt_i (w1 := fun uu : (Nat → Int64) × (Nat → Int64) × (Nat → Int64) => [kM o mP mL mC mN mF mR mD mV mX mA mK cm mT ((z5_split pm gm gc fx fa ft fi c).2.1) mU mH mI, kA mN cI 3 gm, kA mC cI 360 gc, kJ mX cJ 9 uu.1, kJ mA cJ 9 uu.2.1, kJ mT cJ 6 ((z5_split pm gm gc fx fa ft fi c).2.2), kJ mI cJ 3 uu.2.2]) hx hb hr hlk hS dX5_split_132 ((z5_detOf_f2 gc fx c, z5_detOf_f3 gc fx fa c, fi)) he_0.symm (by (try dsimp only); rw [he_1, he_2]; exact hP) (by (try dsimp only); rw [he_1, he_2]; exact hD)
            · skip
              refine lv_iconst (v := 0) hx hb dX5_split_91 (by decide) ?_
              have he : z5_split pm gm gc fx fa ft fi c = (0, 0, ft) := by unfold z5_split; rw [if_neg c_1, if_pos c_2, if_pos c_3, if_neg c_4, if_pos c_8, if_neg c_9]
              have he_0 : (z5_split pm gm gc fx fa ft fi c).1 = 0 := by rw [he]
              have he_1 : (z5_split pm gm gc fx fa ft fi c).2.1 = 0 := by rw [he]
              have he_2 : (z5_split pm gm gc fx fa ft fi c).2.2 = ft := by rw [he]
              exact rt_i (w1 := fun uu : (Nat → Int64) × (Nat → Int64) × (Nat → Int64) => [kM o mP mL mC mN mF mR mD mV mX mA mK cm mT ((z5_split pm gm gc fx fa ft fi c).2.1) mU mH mI, kA mN cI 3 gm, kA mC cI 360 gc, kJ mX cJ 9 uu.1, kJ mA cJ 9 uu.2.1, kJ mT cJ 6 ((z5_split pm gm gc fx fa ft fi c).2.2), kJ mI cJ 3 uu.2.2]) hx hb hr hlk hS dX5_split_92 ((z5_detOf_f2 gc fx c, z5_detOf_f3 gc fx fa c, fi)) he_0.symm (by (try dsimp only); rw [he_1, he_2]; exact hP) (by (try dsimp only); rw [he_1, he_2]; exact hD)
          · skip
            refine lv_iload_n hx hb dX5_split_53 rfl (lv_at hl 0 rfl) ?_
            refine lv_goto (tgt := 58) hx hb dX5_split_54 (by decide) ?_
            refine lv_istore_n (lv' := [(2, .int 2), (3, .int 2), (0, .ref o), (1, .int c)]) hx hb dX5_split_58 rfl hl (by decide) rfl (fun ls hl => ?_)
            refine lv_iinc (v := 3) (lv' := [(3, .int 3), (2, .int 2), (0, .ref o), (1, .int c)]) hx hb dX5_split_59 hl (k := 1) rfl (by decide) (by decide) rfl (fun ls hl => ?_)
            refine lv_goto (tgt := 35) hx hb dX5_split_62 (by decide) ?_
            refine lv_iload_n hx hb dX5_split_35 rfl (lv_at hl 0 rfl) ?_
            refine lv_iconst (v := 3) hx hb dX5_split_36 (by decide) ?_
            refine lv_icmp_ge (tgt := 65) hx hb dX5_split_37 (by decide) (fun _ => ?_) (fun h => absurd (by decide) h)
            refine lv_iload_n hx hb dX5_split_65 rfl (lv_at hl 1 rfl) ?_
            refine lv_ldc hx hb hown k_3 dX5_split_66 ?_
            refine lv_icmp_ne (tgt := 78) hx hb dX5_split_68 (by decide) (fun _ => ?_) (fun h => absurd h (by decide))
            refine lv_aload_n hx hb dX5_split_78 rfl (lv_at hl 2 rfl) ?_
            refine va_get (D := D) (ci := 5) (v := .ref mA) (C := RX5) (T := TX5) (N := 17) hx hb hts k_2 hown hK.1 hP 0 rfl rfl 9 (by decide) k_4 (fun _ h9 => h9) rfl dX5_split_79 ?_
            refine lv_iconst (v := 4) hx hb dX5_split_82 (by decide) ?_
            refine lv_iload_n hx hb dX5_split_83 rfl (lv_at hl 1 rfl) ?_
            refine lv_imul hx hb dX5_split_84 ?_
            refine lv_eqi (v := 8) (by decide) ?_
            refine ld_l hx hb hK.1 hP 4 1 rfl rfl (ix_lit (by decide)) 8 (by decide) (v := (z5_detOf_f3 gc fx fa c) 8) rfl dX5_split_85 ?_
            refine lv_lconst (v := 0) hx hb dX5_split_86 (by decide) ?_
            refine lb_le (tgt := 93) hx hb dX5_split_87 rfl dX5_split_88 (by decide) (fun c_11 => ?_) (fun c_11 => ?_)
            · skip
              refine lv_aload_n hx hb dX5_split_93 rfl (lv_at hl 2 rfl) ?_
              refine va_get (D := D) (ci := 5) (v := .ref mA) (C := RX5) (T := TX5) (N := 17) hx hb hts k_2 hown hK.1 hP 0 rfl rfl 9 (by decide) k_4 (fun _ h9 => h9) rfl dX5_split_94 ?_
              refine lv_iconst (v := 4) hx hb dX5_split_97 (by decide) ?_
              refine lv_iload_n hx hb dX5_split_98 rfl (lv_at hl 1 rfl) ?_
              refine lv_imul hx hb dX5_split_99 ?_
              refine lv_eqi (v := 8) (by decide) ?_
              refine ld_l hx hb hK.1 hP 4 1 rfl rfl (ix_lit (by decide)) 8 (by decide) (v := (z5_detOf_f3 gc fx fa c) 8) rfl dX5_split_100 ?_
              refine lv_lneg hx hb dX5_split_101 ?_
              have hPc := hP.sub (ws' := []) [] rfl
              refine cr_l (va_runS (As := [.long (-((z5_detOf_f3 gc fx fa c) 8))]) (rest := []) ⟨hx, hb, hml, hown, hts⟩ (c_X5_rootOf l D cI cJ (-((z5_detOf_f3 gc fx fa c) 8))) (va_cwS 1 hts gX5_split_X5_rootOf rfl rfl rfl (by decide +kernel) ⟨Nat.le_of_ble_eq_true rfl, Nat.le_of_ble_eq_true rfl⟩) ⟨gd_blR, gd_prR hPc hK⟩ rfl rfl hl.1 rfl (lv_room (Nat.le_of_ble_eq_true rfl)) dX5_split_102 ⟨Nat.zero_le _, Nat.zero_le _⟩) (fun r_102 hw => ?_)
              subst hw
              clear hPc
              refine lv_lstore_n (lv' := [(3, .long (z5_rootOf (-((z5_detOf_f3 gc fx fa c) 8)))), (2, .int 2), (0, .ref o), (1, .int c)]) hx hb dX5_split_105 rfl hl (by decide) rfl (fun ls hl => ?_)
              refine lv_lload_n hx hb dX5_split_106 rfl (lv_at hl 0 rfl) ?_
              refine lv_lload_n hx hb dX5_split_107 rfl (lv_at hl 0 rfl) ?_
              refine lv_lmul hx hb dX5_split_108 ?_
              refine lv_aload_n hx hb dX5_split_109 rfl (lv_at hl 2 rfl) ?_
              refine va_get (D := D) (ci := 5) (v := .ref mA) (C := RX5) (T := TX5) (N := 17) hx hb hts k_2 hown hK.1 hP 0 rfl rfl 9 (by decide) k_4 (fun _ h9 => h9) rfl dX5_split_110 ?_
              refine lv_iconst (v := 4) hx hb dX5_split_113 (by decide) ?_
              refine lv_iload_n hx hb dX5_split_114 rfl (lv_at hl 1 rfl) ?_
              refine lv_imul hx hb dX5_split_115 ?_
              refine lv_eqi (v := 8) (by decide) ?_
              refine ld_l hx hb hK.1 hP 4 1 rfl rfl (ix_lit (by decide)) 8 (by decide) (v := (z5_detOf_f3 gc fx fa c) 8) rfl dX5_split_116 ?_
              refine lv_lneg hx hb dX5_split_117 ?_
              refine lb_eq (tgt := 126) hx hb dX5_split_118 rfl dX5_split_119 (by decide) (fun c_12 => ?_) (fun c_12 => ?_)
              · skip
                refine lv_aload_n hx hb dX5_split_126 rfl (lv_at hl 2 rfl) ?_
                refine lv_lload_n hx hb dX5_split_127 rfl (lv_at hl 0 rfl) ?_
                refine lv_iload_n hx hb dX5_split_128 rfl (lv_at hl 1 rfl) ?_
                have hPc := hP.sub (ws' := [kM o mP mL mC mN mF mR mD mV mX mA mK cm mT 0 mU mH mI, kJ mX cJ 9 (z5_detOf_f2 gc fx c), kJ mA cJ 9 (z5_detOf_f3 gc fx fa c), kJ mT cJ 6 ft, kJ mI cJ 3 fi]) [0, 3, 4, 5, 6] rfl
                have hDc := hD.sub (ws' := [kM o mP mL mC mN mF mR mD mV mX mA mK cm mT 0 mU mH mI, kJ mX cJ 9 (z5_detOf_f2 gc fx c), kJ mA cJ 9 (z5_detOf_f3 gc fx fa c), kJ mT cJ 6 ft, kJ mI cJ 3 fi]) [0, 3, 4, 5, 6] (by decide) rfl
                refine cl_i (wc := [kM o mP mL mC mN mF mR mD mV mX mA mK cm mT 0 mU mH mI, kJ mX cJ 9 (z5_detOf_f2 gc fx c), kJ mA cJ 9 (z5_detOf_f3 gc fx fa c), kJ mT cJ 6 ft, kJ mI cJ 3 fi]) (wr := [kA mN cI 3 gm, kA mC cI 360 gc]) (w1 := fun uu : (Nat → Int64) × (Nat → Int64) => [kM o mP mL mC mN mF mR mD mV mX mA mK cm mT ((z5_takeLines_2 (z5_detOf_f2 gc fx c) (z5_detOf_f3 gc fx fa c) ft fi (z5_rootOf (-((z5_detOf_f3 gc fx fa c) 8)))).2.1) mU mH mI, kJ mX cJ 9 uu.1, kJ mA cJ 9 (z5_detOf_f3 gc fx fa c), kJ mT cJ 6 ((z5_takeLines_2 (z5_detOf_f2 gc fx c) (z5_detOf_f3 gc fx fa c) ft fi (z5_rootOf (-((z5_detOf_f3 gc fx fa c) 8)))).2.2), kJ mI cJ 3 uu.2]) (wn := fun uu : (Nat → Int64) × (Nat → Int64) => [kM o mP mL mC mN mF mR mD mV mX mA mK cm mT ((z5_takeLines_2 (z5_detOf_f2 gc fx c) (z5_detOf_f3 gc fx fa c) ft fi (z5_rootOf (-((z5_detOf_f3 gc fx fa c) 8)))).2.1) mU mH mI, kA mN cI 3 gm, kA mC cI 360 gc, kJ mX cJ 9 uu.1, kJ mA cJ 9 (z5_detOf_f3 gc fx fa c), kJ mT cJ 6 ((z5_takeLines_2 (z5_detOf_f2 gc fx c) (z5_detOf_f3 gc fx fa c) ft fi (z5_rootOf (-((z5_detOf_f3 gc fx fa c) 8)))).2.2), kJ mI cJ 3 uu.2]) (va_runV (As := [.long (z5_rootOf (-((z5_detOf_f3 gc fx fa c) 8))), .int 2]) (rest := []) ⟨hx, hb, hml, hown, hts⟩ (c_X5_takeLines_2 l D cI cJ o mP mL mC mN mF mR mD mV mX mA mK mT mU mH mI cm 0 (z5_detOf_f2 gc fx c) (z5_detOf_f3 gc fx fa c) ft fi (z5_rootOf (-((z5_detOf_f3 gc fx fa c) 8))) (hy7 c_2 c_3 c_4 c_8 c_11 c_12) (hy8 c_2 c_3 c_4 c_8 c_11 c_12) _) (cwV 2 hts gX5_split_X5_takeLines rfl rfl rfl (by decide +kernel) ⟨Nat.le_of_ble_eq_true rfl, Nat.le_of_ble_eq_true rfl⟩) ⟨gd_blP, va_recv hK.1 hPc (ci := 5) (q0 := 0) rfl rfl, gd_prP hPc hK hDc⟩ rfl rfl hl.1 rfl (lv_room (Nat.le_of_ble_eq_true rfl)) dX5_split_129 ⟨Nat.zero_le _, Nat.zero_le _⟩) hP hD hS hA [0, 3, 4, 5, 6] [1, 2] rfl rfl (by decide) (by decide) [2, 0, 1, 3, 4, 5, 6] (by decide) (fun _ => rfl) (fun r_129 uG H locs hw hP hD hS => ?_)
                obtain ⟨y_129_0_7, y_129_1_8⟩ := uG
                have hP : va_P D vwCl [kM o mP mL mC mN mF mR mD mV mX mA mK cm mT ((z5_takeLines_2 (z5_detOf_f2 gc fx c) (z5_detOf_f3 gc fx fa c) ft fi (z5_rootOf (-((z5_detOf_f3 gc fx fa c) 8)))).2.1) mU mH mI, kA mN cI 3 gm, kA mC cI 360 gc, kJ mX cJ 9 y_129_0_7, kJ mA cJ 9 (z5_detOf_f3 gc fx fa c), kJ mT cJ 6 ((z5_takeLines_2 (z5_detOf_f2 gc fx c) (z5_detOf_f3 gc fx fa c) ft fi (z5_rootOf (-((z5_detOf_f3 gc fx fa c) 8)))).2.2), kJ mI cJ 3 y_129_1_8] H := hP
                have hD : va_D A [kM o mP mL mC mN mF mR mD mV mX mA mK cm mT ((z5_takeLines_2 (z5_detOf_f2 gc fx c) (z5_detOf_f3 gc fx fa c) ft fi (z5_rootOf (-((z5_detOf_f3 gc fx fa c) 8)))).2.1) mU mH mI, kA mN cI 3 gm, kA mC cI 360 gc, kJ mX cJ 9 y_129_0_7, kJ mA cJ 9 (z5_detOf_f3 gc fx fa c), kJ mT cJ 6 ((z5_takeLines_2 (z5_detOf_f2 gc fx c) (z5_detOf_f3 gc fx fa c) ft fi (z5_rootOf (-((z5_detOf_f3 gc fx fa c) 8)))).2.2), kJ mI cJ 3 y_129_1_8] := hD
                have ea_0 : (z5_takeLines_2 (z5_detOf_f2 gc fx c) (z5_detOf_f3 gc fx fa c) ft fi (z5_rootOf (-((z5_detOf_f3 gc fx fa c) 8)))).2.1 = z5_split_v1 gc fx fa ft fi c := by delta z5_split_v1; rfl
                have ea_1 : (z5_takeLines_2 (z5_detOf_f2 gc fx c) (z5_detOf_f3 gc fx fa c) ft fi (z5_rootOf (-((z5_detOf_f3 gc fx fa c) 8)))).2.2 = z5_split_v2 gc fx fa ft fi c := by delta z5_split_v2; rfl
                rw [ea_0, ea_1] at hP hD
                clear ea_0 ea_1
                subst hw
                refine lv_eqi (v := z5_split_v3 gc fx fa ft fi c) (by delta z5_split_v3; rfl) ?_
                clear hPc hDc
                have he : z5_split pm gm gc fx fa ft fi c = (z5_split_v3 gc fx fa ft fi c, z5_split_v1 gc fx fa ft fi c, z5_split_v2 gc fx fa ft fi c) := by unfold z5_split; rw [if_neg c_1, if_pos c_2, if_pos c_3, if_neg c_4, if_neg c_8, if_pos c_11, if_pos c_12]
                have he_0 : (z5_split pm gm gc fx fa ft fi c).1 = z5_split_v3 gc fx fa ft fi c := by rw [he]
                have he_1 : (z5_split pm gm gc fx fa ft fi c).2.1 = z5_split_v1 gc fx fa ft fi c := by rw [he]
                have he_2 : (z5_split pm gm gc fx fa ft fi c).2.2 = z5_split_v2 gc fx fa ft fi c := by rw [he]
                exact rt_i (w1 := fun uu : (Nat → Int64) × (Nat → Int64) × (Nat → Int64) => [kM o mP mL mC mN mF mR mD mV mX mA mK cm mT ((z5_split pm gm gc fx fa ft fi c).2.1) mU mH mI, kA mN cI 3 gm, kA mC cI 360 gc, kJ mX cJ 9 uu.1, kJ mA cJ 9 uu.2.1, kJ mT cJ 6 ((z5_split pm gm gc fx fa ft fi c).2.2), kJ mI cJ 3 uu.2.2]) hx hb hr hlk hS dX5_split_132 ((y_129_0_7, (z5_detOf_f3 gc fx fa c), y_129_1_8)) he_0.symm (by (try dsimp only); rw [he_1, he_2]; exact hP) (by (try dsimp only); rw [he_1, he_2]; exact hD)
              · skip
                refine lv_iconst (v := 4) hx hb dX5_split_122 (by decide) ?_
                refine lv_goto (tgt := 132) hx hb dX5_split_123 (by decide) ?_
                have he : z5_split pm gm gc fx fa ft fi c = (4, 0, ft) := by unfold z5_split; rw [if_neg c_1, if_pos c_2, if_pos c_3, if_neg c_4, if_neg c_8, if_pos c_11, if_neg c_12]
                have he_0 : (z5_split pm gm gc fx fa ft fi c).1 = 4 := by rw [he]
                have he_1 : (z5_split pm gm gc fx fa ft fi c).2.1 = 0 := by rw [he]
                have he_2 : (z5_split pm gm gc fx fa ft fi c).2.2 = ft := by rw [he]
                exact rt_i (w1 := fun uu : (Nat → Int64) × (Nat → Int64) × (Nat → Int64) => [kM o mP mL mC mN mF mR mD mV mX mA mK cm mT ((z5_split pm gm gc fx fa ft fi c).2.1) mU mH mI, kA mN cI 3 gm, kA mC cI 360 gc, kJ mX cJ 9 uu.1, kJ mA cJ 9 uu.2.1, kJ mT cJ 6 ((z5_split pm gm gc fx fa ft fi c).2.2), kJ mI cJ 3 uu.2.2]) hx hb hr hlk hS dX5_split_132 ((z5_detOf_f2 gc fx c, z5_detOf_f3 gc fx fa c, fi)) he_0.symm (by (try dsimp only); rw [he_1, he_2]; exact hP) (by (try dsimp only); rw [he_1, he_2]; exact hD)
            · skip
              refine lv_iconst (v := 0) hx hb dX5_split_91 (by decide) ?_
              have he : z5_split pm gm gc fx fa ft fi c = (0, 0, ft) := by unfold z5_split; rw [if_neg c_1, if_pos c_2, if_pos c_3, if_neg c_4, if_neg c_8, if_neg c_11]
              have he_0 : (z5_split pm gm gc fx fa ft fi c).1 = 0 := by rw [he]
              have he_1 : (z5_split pm gm gc fx fa ft fi c).2.1 = 0 := by rw [he]
              have he_2 : (z5_split pm gm gc fx fa ft fi c).2.2 = ft := by rw [he]
              exact rt_i (w1 := fun uu : (Nat → Int64) × (Nat → Int64) × (Nat → Int64) => [kM o mP mL mC mN mF mR mD mV mX mA mK cm mT ((z5_split pm gm gc fx fa ft fi c).2.1) mU mH mI, kA mN cI 3 gm, kA mC cI 360 gc, kJ mX cJ 9 uu.1, kJ mA cJ 9 uu.2.1, kJ mT cJ 6 ((z5_split pm gm gc fx fa ft fi c).2.2), kJ mI cJ 3 uu.2.2]) hx hb hr hlk hS dX5_split_92 ((z5_detOf_f2 gc fx c, z5_detOf_f3 gc fx fa c, fi)) he_0.symm (by (try dsimp only); rw [he_1, he_2]; exact hP) (by (try dsimp only); rw [he_1, he_2]; exact hD)
      · skip
        refine lv_iload_n hx hb dX5_split_53 rfl (lv_at hl 0 rfl) ?_
        refine lv_goto (tgt := 58) hx hb dX5_split_54 (by decide) ?_
        refine lv_istore_n (lv' := [(2, .int 0), (3, .int 0), (0, .ref o), (1, .int c)]) hx hb dX5_split_58 rfl hl (by decide) rfl (fun ls hl => ?_)
        refine lv_iinc (v := 1) (lv' := [(3, .int 1), (2, .int 0), (0, .ref o), (1, .int c)]) hx hb dX5_split_59 hl (k := 1) rfl (by decide) (by decide) rfl (fun ls hl => ?_)
        refine lv_goto (tgt := 35) hx hb dX5_split_62 (by decide) ?_
        refine lv_iload_n hx hb dX5_split_35 rfl (lv_at hl 0 rfl) ?_
        refine lv_iconst (v := 3) hx hb dX5_split_36 (by decide) ?_
        refine lv_icmp_ge (tgt := 65) hx hb dX5_split_37 (by decide) (fun h => absurd h (by decide)) (fun _ => ?_)
        refine lv_aload_n hx hb dX5_split_40 rfl (lv_at hl 2 rfl) ?_
        refine va_get (D := D) (ci := 5) (v := .ref mA) (C := RX5) (T := TX5) (N := 17) hx hb hts k_2 hown hK.1 hP 0 rfl rfl 9 (by decide) k_4 (fun _ h9 => h9) rfl dX5_split_41 ?_
        refine lv_iconst (v := 4) hx hb dX5_split_44 (by decide) ?_
        refine lv_iload_n hx hb dX5_split_45 rfl (lv_at hl 0 rfl) ?_
        refine lv_imul hx hb dX5_split_46 ?_
        refine lv_eqi (v := 4) (by decide) ?_
        refine ld_l hx hb hK.1 hP 4 1 rfl rfl (ix_lit (by decide)) 4 (by decide) (v := (z5_detOf_f3 gc fx fa c) 4) rfl dX5_split_47 ?_
        refine lv_lconst (v := 0) hx hb dX5_split_48 (by decide) ?_
        refine lb_eq (tgt := 57) hx hb dX5_split_49 rfl dX5_split_50 (by decide) (fun c_13 => ?_) (fun c_13 => ?_)
        · skip
          refine lv_iload_n hx hb dX5_split_57 rfl (lv_at hl 1 rfl) ?_
          refine lv_istore_n (lv' := [(2, .int 0), (3, .int 1), (0, .ref o), (1, .int c)]) hx hb dX5_split_58 rfl hl (by decide) rfl (fun ls hl => ?_)
          refine lv_iinc (v := 2) (lv' := [(3, .int 2), (2, .int 0), (0, .ref o), (1, .int c)]) hx hb dX5_split_59 hl (k := 1) rfl (by decide) (by decide) rfl (fun ls hl => ?_)
          refine lv_goto (tgt := 35) hx hb dX5_split_62 (by decide) ?_
          refine lv_iload_n hx hb dX5_split_35 rfl (lv_at hl 0 rfl) ?_
          refine lv_iconst (v := 3) hx hb dX5_split_36 (by decide) ?_
          refine lv_icmp_ge (tgt := 65) hx hb dX5_split_37 (by decide) (fun h => absurd h (by decide)) (fun _ => ?_)
          refine lv_aload_n hx hb dX5_split_40 rfl (lv_at hl 2 rfl) ?_
          refine va_get (D := D) (ci := 5) (v := .ref mA) (C := RX5) (T := TX5) (N := 17) hx hb hts k_2 hown hK.1 hP 0 rfl rfl 9 (by decide) k_4 (fun _ h9 => h9) rfl dX5_split_41 ?_
          refine lv_iconst (v := 4) hx hb dX5_split_44 (by decide) ?_
          refine lv_iload_n hx hb dX5_split_45 rfl (lv_at hl 0 rfl) ?_
          refine lv_imul hx hb dX5_split_46 ?_
          refine lv_eqi (v := 8) (by decide) ?_
          refine ld_l hx hb hK.1 hP 4 1 rfl rfl (ix_lit (by decide)) 8 (by decide) (v := (z5_detOf_f3 gc fx fa c) 8) rfl dX5_split_47 ?_
          refine lv_lconst (v := 0) hx hb dX5_split_48 (by decide) ?_
          refine lb_eq (tgt := 57) hx hb dX5_split_49 rfl dX5_split_50 (by decide) (fun c_14 => ?_) (fun c_14 => ?_)
          · skip
            refine lv_iload_n hx hb dX5_split_57 rfl (lv_at hl 1 rfl) ?_
            refine lv_istore_n (lv' := [(2, .int 0), (3, .int 2), (0, .ref o), (1, .int c)]) hx hb dX5_split_58 rfl hl (by decide) rfl (fun ls hl => ?_)
            refine lv_iinc (v := 3) (lv' := [(3, .int 3), (2, .int 0), (0, .ref o), (1, .int c)]) hx hb dX5_split_59 hl (k := 1) rfl (by decide) (by decide) rfl (fun ls hl => ?_)
            refine lv_goto (tgt := 35) hx hb dX5_split_62 (by decide) ?_
            refine lv_iload_n hx hb dX5_split_35 rfl (lv_at hl 0 rfl) ?_
            refine lv_iconst (v := 3) hx hb dX5_split_36 (by decide) ?_
            refine lv_icmp_ge (tgt := 65) hx hb dX5_split_37 (by decide) (fun _ => ?_) (fun h => absurd (by decide) h)
            refine lv_iload_n hx hb dX5_split_65 rfl (lv_at hl 1 rfl) ?_
            refine lv_ldc hx hb hown k_3 dX5_split_66 ?_
            refine lv_icmp_ne (tgt := 78) hx hb dX5_split_68 (by decide) (fun _ => ?_) (fun h => absurd h (by decide))
            refine lv_aload_n hx hb dX5_split_78 rfl (lv_at hl 2 rfl) ?_
            refine va_get (D := D) (ci := 5) (v := .ref mA) (C := RX5) (T := TX5) (N := 17) hx hb hts k_2 hown hK.1 hP 0 rfl rfl 9 (by decide) k_4 (fun _ h9 => h9) rfl dX5_split_79 ?_
            refine lv_iconst (v := 4) hx hb dX5_split_82 (by decide) ?_
            refine lv_iload_n hx hb dX5_split_83 rfl (lv_at hl 1 rfl) ?_
            refine lv_imul hx hb dX5_split_84 ?_
            refine lv_eqi (v := 0) (by decide) ?_
            refine ld_l hx hb hK.1 hP 4 1 rfl rfl (ix_lit (by decide)) 0 (by decide) (v := (z5_detOf_f3 gc fx fa c) 0) rfl dX5_split_85 ?_
            refine lv_lconst (v := 0) hx hb dX5_split_86 (by decide) ?_
            refine lb_le (tgt := 93) hx hb dX5_split_87 rfl dX5_split_88 (by decide) (fun c_15 => ?_) (fun c_15 => ?_)
            · skip
              refine lv_aload_n hx hb dX5_split_93 rfl (lv_at hl 2 rfl) ?_
              refine va_get (D := D) (ci := 5) (v := .ref mA) (C := RX5) (T := TX5) (N := 17) hx hb hts k_2 hown hK.1 hP 0 rfl rfl 9 (by decide) k_4 (fun _ h9 => h9) rfl dX5_split_94 ?_
              refine lv_iconst (v := 4) hx hb dX5_split_97 (by decide) ?_
              refine lv_iload_n hx hb dX5_split_98 rfl (lv_at hl 1 rfl) ?_
              refine lv_imul hx hb dX5_split_99 ?_
              refine lv_eqi (v := 0) (by decide) ?_
              refine ld_l hx hb hK.1 hP 4 1 rfl rfl (ix_lit (by decide)) 0 (by decide) (v := (z5_detOf_f3 gc fx fa c) 0) rfl dX5_split_100 ?_
              refine lv_lneg hx hb dX5_split_101 ?_
              have hPc := hP.sub (ws' := []) [] rfl
              refine cr_l (va_runS (As := [.long (-((z5_detOf_f3 gc fx fa c) 0))]) (rest := []) ⟨hx, hb, hml, hown, hts⟩ (c_X5_rootOf l D cI cJ (-((z5_detOf_f3 gc fx fa c) 0))) (va_cwS 1 hts gX5_split_X5_rootOf rfl rfl rfl (by decide +kernel) ⟨Nat.le_of_ble_eq_true rfl, Nat.le_of_ble_eq_true rfl⟩) ⟨gd_blR, gd_prR hPc hK⟩ rfl rfl hl.1 rfl (lv_room (Nat.le_of_ble_eq_true rfl)) dX5_split_102 ⟨Nat.zero_le _, Nat.zero_le _⟩) (fun r_102 hw => ?_)
              subst hw
              clear hPc
              refine lv_lstore_n (lv' := [(3, .long (z5_rootOf (-((z5_detOf_f3 gc fx fa c) 0)))), (2, .int 0), (0, .ref o), (1, .int c)]) hx hb dX5_split_105 rfl hl (by decide) rfl (fun ls hl => ?_)
              refine lv_lload_n hx hb dX5_split_106 rfl (lv_at hl 0 rfl) ?_
              refine lv_lload_n hx hb dX5_split_107 rfl (lv_at hl 0 rfl) ?_
              refine lv_lmul hx hb dX5_split_108 ?_
              refine lv_aload_n hx hb dX5_split_109 rfl (lv_at hl 2 rfl) ?_
              refine va_get (D := D) (ci := 5) (v := .ref mA) (C := RX5) (T := TX5) (N := 17) hx hb hts k_2 hown hK.1 hP 0 rfl rfl 9 (by decide) k_4 (fun _ h9 => h9) rfl dX5_split_110 ?_
              refine lv_iconst (v := 4) hx hb dX5_split_113 (by decide) ?_
              refine lv_iload_n hx hb dX5_split_114 rfl (lv_at hl 1 rfl) ?_
              refine lv_imul hx hb dX5_split_115 ?_
              refine lv_eqi (v := 0) (by decide) ?_
              refine ld_l hx hb hK.1 hP 4 1 rfl rfl (ix_lit (by decide)) 0 (by decide) (v := (z5_detOf_f3 gc fx fa c) 0) rfl dX5_split_116 ?_
              refine lv_lneg hx hb dX5_split_117 ?_
              refine lb_eq (tgt := 126) hx hb dX5_split_118 rfl dX5_split_119 (by decide) (fun c_16 => ?_) (fun c_16 => ?_)
              · skip
                refine lv_aload_n hx hb dX5_split_126 rfl (lv_at hl 2 rfl) ?_
                refine lv_lload_n hx hb dX5_split_127 rfl (lv_at hl 0 rfl) ?_
                refine lv_iload_n hx hb dX5_split_128 rfl (lv_at hl 1 rfl) ?_
                have hPc := hP.sub (ws' := [kM o mP mL mC mN mF mR mD mV mX mA mK cm mT 0 mU mH mI, kJ mX cJ 9 (z5_detOf_f2 gc fx c), kJ mA cJ 9 (z5_detOf_f3 gc fx fa c), kJ mT cJ 6 ft, kJ mI cJ 3 fi]) [0, 3, 4, 5, 6] rfl
                have hDc := hD.sub (ws' := [kM o mP mL mC mN mF mR mD mV mX mA mK cm mT 0 mU mH mI, kJ mX cJ 9 (z5_detOf_f2 gc fx c), kJ mA cJ 9 (z5_detOf_f3 gc fx fa c), kJ mT cJ 6 ft, kJ mI cJ 3 fi]) [0, 3, 4, 5, 6] (by decide) rfl
                refine cl_i (wc := [kM o mP mL mC mN mF mR mD mV mX mA mK cm mT 0 mU mH mI, kJ mX cJ 9 (z5_detOf_f2 gc fx c), kJ mA cJ 9 (z5_detOf_f3 gc fx fa c), kJ mT cJ 6 ft, kJ mI cJ 3 fi]) (wr := [kA mN cI 3 gm, kA mC cI 360 gc]) (w1 := fun uu : (Nat → Int64) × (Nat → Int64) => [kM o mP mL mC mN mF mR mD mV mX mA mK cm mT ((z5_takeLines_0 (z5_detOf_f2 gc fx c) (z5_detOf_f3 gc fx fa c) ft fi (z5_rootOf (-((z5_detOf_f3 gc fx fa c) 0)))).2.1) mU mH mI, kJ mX cJ 9 uu.1, kJ mA cJ 9 (z5_detOf_f3 gc fx fa c), kJ mT cJ 6 ((z5_takeLines_0 (z5_detOf_f2 gc fx c) (z5_detOf_f3 gc fx fa c) ft fi (z5_rootOf (-((z5_detOf_f3 gc fx fa c) 0)))).2.2), kJ mI cJ 3 uu.2]) (wn := fun uu : (Nat → Int64) × (Nat → Int64) => [kM o mP mL mC mN mF mR mD mV mX mA mK cm mT ((z5_takeLines_0 (z5_detOf_f2 gc fx c) (z5_detOf_f3 gc fx fa c) ft fi (z5_rootOf (-((z5_detOf_f3 gc fx fa c) 0)))).2.1) mU mH mI, kA mN cI 3 gm, kA mC cI 360 gc, kJ mX cJ 9 uu.1, kJ mA cJ 9 (z5_detOf_f3 gc fx fa c), kJ mT cJ 6 ((z5_takeLines_0 (z5_detOf_f2 gc fx c) (z5_detOf_f3 gc fx fa c) ft fi (z5_rootOf (-((z5_detOf_f3 gc fx fa c) 0)))).2.2), kJ mI cJ 3 uu.2]) (va_runV (As := [.long (z5_rootOf (-((z5_detOf_f3 gc fx fa c) 0))), .int 0]) (rest := []) ⟨hx, hb, hml, hown, hts⟩ (c_X5_takeLines_0 l D cI cJ o mP mL mC mN mF mR mD mV mX mA mK mT mU mH mI cm 0 (z5_detOf_f2 gc fx c) (z5_detOf_f3 gc fx fa c) ft fi (z5_rootOf (-((z5_detOf_f3 gc fx fa c) 0))) (hy9 c_2 c_3 c_13 c_14 c_15 c_16) (hy10 c_2 c_3 c_13 c_14 c_15 c_16) _) (cwV 2 hts gX5_split_X5_takeLines rfl rfl rfl (by decide +kernel) ⟨Nat.le_of_ble_eq_true rfl, Nat.le_of_ble_eq_true rfl⟩) ⟨gd_blP, va_recv hK.1 hPc (ci := 5) (q0 := 0) rfl rfl, gd_prP hPc hK hDc⟩ rfl rfl hl.1 rfl (lv_room (Nat.le_of_ble_eq_true rfl)) dX5_split_129 ⟨Nat.zero_le _, Nat.zero_le _⟩) hP hD hS hA [0, 3, 4, 5, 6] [1, 2] rfl rfl (by decide) (by decide) [2, 0, 1, 3, 4, 5, 6] (by decide) (fun _ => rfl) (fun r_129 uG H locs hw hP hD hS => ?_)
                obtain ⟨y_129_0_9, y_129_1_10⟩ := uG
                have hP : va_P D vwCl [kM o mP mL mC mN mF mR mD mV mX mA mK cm mT ((z5_takeLines_0 (z5_detOf_f2 gc fx c) (z5_detOf_f3 gc fx fa c) ft fi (z5_rootOf (-((z5_detOf_f3 gc fx fa c) 0)))).2.1) mU mH mI, kA mN cI 3 gm, kA mC cI 360 gc, kJ mX cJ 9 y_129_0_9, kJ mA cJ 9 (z5_detOf_f3 gc fx fa c), kJ mT cJ 6 ((z5_takeLines_0 (z5_detOf_f2 gc fx c) (z5_detOf_f3 gc fx fa c) ft fi (z5_rootOf (-((z5_detOf_f3 gc fx fa c) 0)))).2.2), kJ mI cJ 3 y_129_1_10] H := hP
                have hD : va_D A [kM o mP mL mC mN mF mR mD mV mX mA mK cm mT ((z5_takeLines_0 (z5_detOf_f2 gc fx c) (z5_detOf_f3 gc fx fa c) ft fi (z5_rootOf (-((z5_detOf_f3 gc fx fa c) 0)))).2.1) mU mH mI, kA mN cI 3 gm, kA mC cI 360 gc, kJ mX cJ 9 y_129_0_9, kJ mA cJ 9 (z5_detOf_f3 gc fx fa c), kJ mT cJ 6 ((z5_takeLines_0 (z5_detOf_f2 gc fx c) (z5_detOf_f3 gc fx fa c) ft fi (z5_rootOf (-((z5_detOf_f3 gc fx fa c) 0)))).2.2), kJ mI cJ 3 y_129_1_10] := hD
                have ea_0 : (z5_takeLines_0 (z5_detOf_f2 gc fx c) (z5_detOf_f3 gc fx fa c) ft fi (z5_rootOf (-((z5_detOf_f3 gc fx fa c) 0)))).2.1 = z5_split_v7 gc fx fa ft fi c := by delta z5_split_v7; rfl
                have ea_1 : (z5_takeLines_0 (z5_detOf_f2 gc fx c) (z5_detOf_f3 gc fx fa c) ft fi (z5_rootOf (-((z5_detOf_f3 gc fx fa c) 0)))).2.2 = z5_split_v8 gc fx fa ft fi c := by delta z5_split_v8; rfl
                rw [ea_0, ea_1] at hP hD
                clear ea_0 ea_1
                subst hw
                refine lv_eqi (v := z5_split_v9 gc fx fa ft fi c) (by delta z5_split_v9; rfl) ?_
                clear hPc hDc
                have he : z5_split pm gm gc fx fa ft fi c = (z5_split_v9 gc fx fa ft fi c, z5_split_v7 gc fx fa ft fi c, z5_split_v8 gc fx fa ft fi c) := by unfold z5_split; rw [if_neg c_1, if_pos c_2, if_neg c_3, if_pos c_13, if_pos c_14, if_pos c_15, if_pos c_16]
                have he_0 : (z5_split pm gm gc fx fa ft fi c).1 = z5_split_v9 gc fx fa ft fi c := by rw [he]
                have he_1 : (z5_split pm gm gc fx fa ft fi c).2.1 = z5_split_v7 gc fx fa ft fi c := by rw [he]
                have he_2 : (z5_split pm gm gc fx fa ft fi c).2.2 = z5_split_v8 gc fx fa ft fi c := by rw [he]
                exact rt_i (w1 := fun uu : (Nat → Int64) × (Nat → Int64) × (Nat → Int64) => [kM o mP mL mC mN mF mR mD mV mX mA mK cm mT ((z5_split pm gm gc fx fa ft fi c).2.1) mU mH mI, kA mN cI 3 gm, kA mC cI 360 gc, kJ mX cJ 9 uu.1, kJ mA cJ 9 uu.2.1, kJ mT cJ 6 ((z5_split pm gm gc fx fa ft fi c).2.2), kJ mI cJ 3 uu.2.2]) hx hb hr hlk hS dX5_split_132 ((y_129_0_9, (z5_detOf_f3 gc fx fa c), y_129_1_10)) he_0.symm (by (try dsimp only); rw [he_1, he_2]; exact hP) (by (try dsimp only); rw [he_1, he_2]; exact hD)
              · skip
                refine lv_iconst (v := 4) hx hb dX5_split_122 (by decide) ?_
                refine lv_goto (tgt := 132) hx hb dX5_split_123 (by decide) ?_
                have he : z5_split pm gm gc fx fa ft fi c = (4, 0, ft) := by unfold z5_split; rw [if_neg c_1, if_pos c_2, if_neg c_3, if_pos c_13, if_pos c_14, if_pos c_15, if_neg c_16]
                have he_0 : (z5_split pm gm gc fx fa ft fi c).1 = 4 := by rw [he]
                have he_1 : (z5_split pm gm gc fx fa ft fi c).2.1 = 0 := by rw [he]
                have he_2 : (z5_split pm gm gc fx fa ft fi c).2.2 = ft := by rw [he]
                exact rt_i (w1 := fun uu : (Nat → Int64) × (Nat → Int64) × (Nat → Int64) => [kM o mP mL mC mN mF mR mD mV mX mA mK cm mT ((z5_split pm gm gc fx fa ft fi c).2.1) mU mH mI, kA mN cI 3 gm, kA mC cI 360 gc, kJ mX cJ 9 uu.1, kJ mA cJ 9 uu.2.1, kJ mT cJ 6 ((z5_split pm gm gc fx fa ft fi c).2.2), kJ mI cJ 3 uu.2.2]) hx hb hr hlk hS dX5_split_132 ((z5_detOf_f2 gc fx c, z5_detOf_f3 gc fx fa c, fi)) he_0.symm (by (try dsimp only); rw [he_1, he_2]; exact hP) (by (try dsimp only); rw [he_1, he_2]; exact hD)
            · skip
              refine lv_iconst (v := 0) hx hb dX5_split_91 (by decide) ?_
              have he : z5_split pm gm gc fx fa ft fi c = (0, 0, ft) := by unfold z5_split; rw [if_neg c_1, if_pos c_2, if_neg c_3, if_pos c_13, if_pos c_14, if_neg c_15]
              have he_0 : (z5_split pm gm gc fx fa ft fi c).1 = 0 := by rw [he]
              have he_1 : (z5_split pm gm gc fx fa ft fi c).2.1 = 0 := by rw [he]
              have he_2 : (z5_split pm gm gc fx fa ft fi c).2.2 = ft := by rw [he]
              exact rt_i (w1 := fun uu : (Nat → Int64) × (Nat → Int64) × (Nat → Int64) => [kM o mP mL mC mN mF mR mD mV mX mA mK cm mT ((z5_split pm gm gc fx fa ft fi c).2.1) mU mH mI, kA mN cI 3 gm, kA mC cI 360 gc, kJ mX cJ 9 uu.1, kJ mA cJ 9 uu.2.1, kJ mT cJ 6 ((z5_split pm gm gc fx fa ft fi c).2.2), kJ mI cJ 3 uu.2.2]) hx hb hr hlk hS dX5_split_92 ((z5_detOf_f2 gc fx c, z5_detOf_f3 gc fx fa c, fi)) he_0.symm (by (try dsimp only); rw [he_1, he_2]; exact hP) (by (try dsimp only); rw [he_1, he_2]; exact hD)
          · skip
            refine lv_iload_n hx hb dX5_split_53 rfl (lv_at hl 0 rfl) ?_
            refine lv_goto (tgt := 58) hx hb dX5_split_54 (by decide) ?_
            refine lv_istore_n (lv' := [(2, .int 2), (3, .int 2), (0, .ref o), (1, .int c)]) hx hb dX5_split_58 rfl hl (by decide) rfl (fun ls hl => ?_)
            refine lv_iinc (v := 3) (lv' := [(3, .int 3), (2, .int 2), (0, .ref o), (1, .int c)]) hx hb dX5_split_59 hl (k := 1) rfl (by decide) (by decide) rfl (fun ls hl => ?_)
            refine lv_goto (tgt := 35) hx hb dX5_split_62 (by decide) ?_
            refine lv_iload_n hx hb dX5_split_35 rfl (lv_at hl 0 rfl) ?_
            refine lv_iconst (v := 3) hx hb dX5_split_36 (by decide) ?_
            refine lv_icmp_ge (tgt := 65) hx hb dX5_split_37 (by decide) (fun _ => ?_) (fun h => absurd (by decide) h)
            refine lv_iload_n hx hb dX5_split_65 rfl (lv_at hl 1 rfl) ?_
            refine lv_ldc hx hb hown k_3 dX5_split_66 ?_
            refine lv_icmp_ne (tgt := 78) hx hb dX5_split_68 (by decide) (fun _ => ?_) (fun h => absurd h (by decide))
            refine lv_aload_n hx hb dX5_split_78 rfl (lv_at hl 2 rfl) ?_
            refine va_get (D := D) (ci := 5) (v := .ref mA) (C := RX5) (T := TX5) (N := 17) hx hb hts k_2 hown hK.1 hP 0 rfl rfl 9 (by decide) k_4 (fun _ h9 => h9) rfl dX5_split_79 ?_
            refine lv_iconst (v := 4) hx hb dX5_split_82 (by decide) ?_
            refine lv_iload_n hx hb dX5_split_83 rfl (lv_at hl 1 rfl) ?_
            refine lv_imul hx hb dX5_split_84 ?_
            refine lv_eqi (v := 8) (by decide) ?_
            refine ld_l hx hb hK.1 hP 4 1 rfl rfl (ix_lit (by decide)) 8 (by decide) (v := (z5_detOf_f3 gc fx fa c) 8) rfl dX5_split_85 ?_
            refine lv_lconst (v := 0) hx hb dX5_split_86 (by decide) ?_
            refine lb_le (tgt := 93) hx hb dX5_split_87 rfl dX5_split_88 (by decide) (fun c_17 => ?_) (fun c_17 => ?_)
            · skip
              refine lv_aload_n hx hb dX5_split_93 rfl (lv_at hl 2 rfl) ?_
              refine va_get (D := D) (ci := 5) (v := .ref mA) (C := RX5) (T := TX5) (N := 17) hx hb hts k_2 hown hK.1 hP 0 rfl rfl 9 (by decide) k_4 (fun _ h9 => h9) rfl dX5_split_94 ?_
              refine lv_iconst (v := 4) hx hb dX5_split_97 (by decide) ?_
              refine lv_iload_n hx hb dX5_split_98 rfl (lv_at hl 1 rfl) ?_
              refine lv_imul hx hb dX5_split_99 ?_
              refine lv_eqi (v := 8) (by decide) ?_
              refine ld_l hx hb hK.1 hP 4 1 rfl rfl (ix_lit (by decide)) 8 (by decide) (v := (z5_detOf_f3 gc fx fa c) 8) rfl dX5_split_100 ?_
              refine lv_lneg hx hb dX5_split_101 ?_
              have hPc := hP.sub (ws' := []) [] rfl
              refine cr_l (va_runS (As := [.long (-((z5_detOf_f3 gc fx fa c) 8))]) (rest := []) ⟨hx, hb, hml, hown, hts⟩ (c_X5_rootOf l D cI cJ (-((z5_detOf_f3 gc fx fa c) 8))) (va_cwS 1 hts gX5_split_X5_rootOf rfl rfl rfl (by decide +kernel) ⟨Nat.le_of_ble_eq_true rfl, Nat.le_of_ble_eq_true rfl⟩) ⟨gd_blR, gd_prR hPc hK⟩ rfl rfl hl.1 rfl (lv_room (Nat.le_of_ble_eq_true rfl)) dX5_split_102 ⟨Nat.zero_le _, Nat.zero_le _⟩) (fun r_102 hw => ?_)
              subst hw
              clear hPc
              refine lv_lstore_n (lv' := [(3, .long (z5_rootOf (-((z5_detOf_f3 gc fx fa c) 8)))), (2, .int 2), (0, .ref o), (1, .int c)]) hx hb dX5_split_105 rfl hl (by decide) rfl (fun ls hl => ?_)
              refine lv_lload_n hx hb dX5_split_106 rfl (lv_at hl 0 rfl) ?_
              refine lv_lload_n hx hb dX5_split_107 rfl (lv_at hl 0 rfl) ?_
              refine lv_lmul hx hb dX5_split_108 ?_
              refine lv_aload_n hx hb dX5_split_109 rfl (lv_at hl 2 rfl) ?_
              refine va_get (D := D) (ci := 5) (v := .ref mA) (C := RX5) (T := TX5) (N := 17) hx hb hts k_2 hown hK.1 hP 0 rfl rfl 9 (by decide) k_4 (fun _ h9 => h9) rfl dX5_split_110 ?_
              refine lv_iconst (v := 4) hx hb dX5_split_113 (by decide) ?_
              refine lv_iload_n hx hb dX5_split_114 rfl (lv_at hl 1 rfl) ?_
              refine lv_imul hx hb dX5_split_115 ?_
              refine lv_eqi (v := 8) (by decide) ?_
              refine ld_l hx hb hK.1 hP 4 1 rfl rfl (ix_lit (by decide)) 8 (by decide) (v := (z5_detOf_f3 gc fx fa c) 8) rfl dX5_split_116 ?_
              refine lv_lneg hx hb dX5_split_117 ?_
              refine lb_eq (tgt := 126) hx hb dX5_split_118 rfl dX5_split_119 (by decide) (fun c_18 => ?_) (fun c_18 => ?_)
              · skip
                refine lv_aload_n hx hb dX5_split_126 rfl (lv_at hl 2 rfl) ?_
                refine lv_lload_n hx hb dX5_split_127 rfl (lv_at hl 0 rfl) ?_
                refine lv_iload_n hx hb dX5_split_128 rfl (lv_at hl 1 rfl) ?_
                have hPc := hP.sub (ws' := [kM o mP mL mC mN mF mR mD mV mX mA mK cm mT 0 mU mH mI, kJ mX cJ 9 (z5_detOf_f2 gc fx c), kJ mA cJ 9 (z5_detOf_f3 gc fx fa c), kJ mT cJ 6 ft, kJ mI cJ 3 fi]) [0, 3, 4, 5, 6] rfl
                have hDc := hD.sub (ws' := [kM o mP mL mC mN mF mR mD mV mX mA mK cm mT 0 mU mH mI, kJ mX cJ 9 (z5_detOf_f2 gc fx c), kJ mA cJ 9 (z5_detOf_f3 gc fx fa c), kJ mT cJ 6 ft, kJ mI cJ 3 fi]) [0, 3, 4, 5, 6] (by decide) rfl
                refine cl_i (wc := [kM o mP mL mC mN mF mR mD mV mX mA mK cm mT 0 mU mH mI, kJ mX cJ 9 (z5_detOf_f2 gc fx c), kJ mA cJ 9 (z5_detOf_f3 gc fx fa c), kJ mT cJ 6 ft, kJ mI cJ 3 fi]) (wr := [kA mN cI 3 gm, kA mC cI 360 gc]) (w1 := fun uu : (Nat → Int64) × (Nat → Int64) => [kM o mP mL mC mN mF mR mD mV mX mA mK cm mT ((z5_takeLines_2 (z5_detOf_f2 gc fx c) (z5_detOf_f3 gc fx fa c) ft fi (z5_rootOf (-((z5_detOf_f3 gc fx fa c) 8)))).2.1) mU mH mI, kJ mX cJ 9 uu.1, kJ mA cJ 9 (z5_detOf_f3 gc fx fa c), kJ mT cJ 6 ((z5_takeLines_2 (z5_detOf_f2 gc fx c) (z5_detOf_f3 gc fx fa c) ft fi (z5_rootOf (-((z5_detOf_f3 gc fx fa c) 8)))).2.2), kJ mI cJ 3 uu.2]) (wn := fun uu : (Nat → Int64) × (Nat → Int64) => [kM o mP mL mC mN mF mR mD mV mX mA mK cm mT ((z5_takeLines_2 (z5_detOf_f2 gc fx c) (z5_detOf_f3 gc fx fa c) ft fi (z5_rootOf (-((z5_detOf_f3 gc fx fa c) 8)))).2.1) mU mH mI, kA mN cI 3 gm, kA mC cI 360 gc, kJ mX cJ 9 uu.1, kJ mA cJ 9 (z5_detOf_f3 gc fx fa c), kJ mT cJ 6 ((z5_takeLines_2 (z5_detOf_f2 gc fx c) (z5_detOf_f3 gc fx fa c) ft fi (z5_rootOf (-((z5_detOf_f3 gc fx fa c) 8)))).2.2), kJ mI cJ 3 uu.2]) (va_runV (As := [.long (z5_rootOf (-((z5_detOf_f3 gc fx fa c) 8))), .int 2]) (rest := []) ⟨hx, hb, hml, hown, hts⟩ (c_X5_takeLines_2 l D cI cJ o mP mL mC mN mF mR mD mV mX mA mK mT mU mH mI cm 0 (z5_detOf_f2 gc fx c) (z5_detOf_f3 gc fx fa c) ft fi (z5_rootOf (-((z5_detOf_f3 gc fx fa c) 8))) (hy11 c_2 c_3 c_13 c_14 c_17 c_18) (hy12 c_2 c_3 c_13 c_14 c_17 c_18) _) (cwV 2 hts gX5_split_X5_takeLines rfl rfl rfl (by decide +kernel) ⟨Nat.le_of_ble_eq_true rfl, Nat.le_of_ble_eq_true rfl⟩) ⟨gd_blP, va_recv hK.1 hPc (ci := 5) (q0 := 0) rfl rfl, gd_prP hPc hK hDc⟩ rfl rfl hl.1 rfl (lv_room (Nat.le_of_ble_eq_true rfl)) dX5_split_129 ⟨Nat.zero_le _, Nat.zero_le _⟩) hP hD hS hA [0, 3, 4, 5, 6] [1, 2] rfl rfl (by decide) (by decide) [2, 0, 1, 3, 4, 5, 6] (by decide) (fun _ => rfl) (fun r_129 uG H locs hw hP hD hS => ?_)
                obtain ⟨y_129_0_11, y_129_1_12⟩ := uG
                have hP : va_P D vwCl [kM o mP mL mC mN mF mR mD mV mX mA mK cm mT ((z5_takeLines_2 (z5_detOf_f2 gc fx c) (z5_detOf_f3 gc fx fa c) ft fi (z5_rootOf (-((z5_detOf_f3 gc fx fa c) 8)))).2.1) mU mH mI, kA mN cI 3 gm, kA mC cI 360 gc, kJ mX cJ 9 y_129_0_11, kJ mA cJ 9 (z5_detOf_f3 gc fx fa c), kJ mT cJ 6 ((z5_takeLines_2 (z5_detOf_f2 gc fx c) (z5_detOf_f3 gc fx fa c) ft fi (z5_rootOf (-((z5_detOf_f3 gc fx fa c) 8)))).2.2), kJ mI cJ 3 y_129_1_12] H := hP
                have hD : va_D A [kM o mP mL mC mN mF mR mD mV mX mA mK cm mT ((z5_takeLines_2 (z5_detOf_f2 gc fx c) (z5_detOf_f3 gc fx fa c) ft fi (z5_rootOf (-((z5_detOf_f3 gc fx fa c) 8)))).2.1) mU mH mI, kA mN cI 3 gm, kA mC cI 360 gc, kJ mX cJ 9 y_129_0_11, kJ mA cJ 9 (z5_detOf_f3 gc fx fa c), kJ mT cJ 6 ((z5_takeLines_2 (z5_detOf_f2 gc fx c) (z5_detOf_f3 gc fx fa c) ft fi (z5_rootOf (-((z5_detOf_f3 gc fx fa c) 8)))).2.2), kJ mI cJ 3 y_129_1_12] := hD
                have ea_0 : (z5_takeLines_2 (z5_detOf_f2 gc fx c) (z5_detOf_f3 gc fx fa c) ft fi (z5_rootOf (-((z5_detOf_f3 gc fx fa c) 8)))).2.1 = z5_split_v1 gc fx fa ft fi c := by delta z5_split_v1; rfl
                have ea_1 : (z5_takeLines_2 (z5_detOf_f2 gc fx c) (z5_detOf_f3 gc fx fa c) ft fi (z5_rootOf (-((z5_detOf_f3 gc fx fa c) 8)))).2.2 = z5_split_v2 gc fx fa ft fi c := by delta z5_split_v2; rfl
                rw [ea_0, ea_1] at hP hD
                clear ea_0 ea_1
                subst hw
                refine lv_eqi (v := z5_split_v3 gc fx fa ft fi c) (by delta z5_split_v3; rfl) ?_
                clear hPc hDc
                have he : z5_split pm gm gc fx fa ft fi c = (z5_split_v3 gc fx fa ft fi c, z5_split_v1 gc fx fa ft fi c, z5_split_v2 gc fx fa ft fi c) := by unfold z5_split; rw [if_neg c_1, if_pos c_2, if_neg c_3, if_pos c_13, if_neg c_14, if_pos c_17, if_pos c_18]
                have he_0 : (z5_split pm gm gc fx fa ft fi c).1 = z5_split_v3 gc fx fa ft fi c := by rw [he]
                have he_1 : (z5_split pm gm gc fx fa ft fi c).2.1 = z5_split_v1 gc fx fa ft fi c := by rw [he]
                have he_2 : (z5_split pm gm gc fx fa ft fi c).2.2 = z5_split_v2 gc fx fa ft fi c := by rw [he]
                exact rt_i (w1 := fun uu : (Nat → Int64) × (Nat → Int64) × (Nat → Int64) => [kM o mP mL mC mN mF mR mD mV mX mA mK cm mT ((z5_split pm gm gc fx fa ft fi c).2.1) mU mH mI, kA mN cI 3 gm, kA mC cI 360 gc, kJ mX cJ 9 uu.1, kJ mA cJ 9 uu.2.1, kJ mT cJ 6 ((z5_split pm gm gc fx fa ft fi c).2.2), kJ mI cJ 3 uu.2.2]) hx hb hr hlk hS dX5_split_132 ((y_129_0_11, (z5_detOf_f3 gc fx fa c), y_129_1_12)) he_0.symm (by (try dsimp only); rw [he_1, he_2]; exact hP) (by (try dsimp only); rw [he_1, he_2]; exact hD)
              · skip
                refine lv_iconst (v := 4) hx hb dX5_split_122 (by decide) ?_
                refine lv_goto (tgt := 132) hx hb dX5_split_123 (by decide) ?_
                have he : z5_split pm gm gc fx fa ft fi c = (4, 0, ft) := by unfold z5_split; rw [if_neg c_1, if_pos c_2, if_neg c_3, if_pos c_13, if_neg c_14, if_pos c_17, if_neg c_18]
                have he_0 : (z5_split pm gm gc fx fa ft fi c).1 = 4 := by rw [he]
                have he_1 : (z5_split pm gm gc fx fa ft fi c).2.1 = 0 := by rw [he]
                have he_2 : (z5_split pm gm gc fx fa ft fi c).2.2 = ft := by rw [he]
                exact rt_i (w1 := fun uu : (Nat → Int64) × (Nat → Int64) × (Nat → Int64) => [kM o mP mL mC mN mF mR mD mV mX mA mK cm mT ((z5_split pm gm gc fx fa ft fi c).2.1) mU mH mI, kA mN cI 3 gm, kA mC cI 360 gc, kJ mX cJ 9 uu.1, kJ mA cJ 9 uu.2.1, kJ mT cJ 6 ((z5_split pm gm gc fx fa ft fi c).2.2), kJ mI cJ 3 uu.2.2]) hx hb hr hlk hS dX5_split_132 ((z5_detOf_f2 gc fx c, z5_detOf_f3 gc fx fa c, fi)) he_0.symm (by (try dsimp only); rw [he_1, he_2]; exact hP) (by (try dsimp only); rw [he_1, he_2]; exact hD)
            · skip
              refine lv_iconst (v := 0) hx hb dX5_split_91 (by decide) ?_
              have he : z5_split pm gm gc fx fa ft fi c = (0, 0, ft) := by unfold z5_split; rw [if_neg c_1, if_pos c_2, if_neg c_3, if_pos c_13, if_neg c_14, if_neg c_17]
              have he_0 : (z5_split pm gm gc fx fa ft fi c).1 = 0 := by rw [he]
              have he_1 : (z5_split pm gm gc fx fa ft fi c).2.1 = 0 := by rw [he]
              have he_2 : (z5_split pm gm gc fx fa ft fi c).2.2 = ft := by rw [he]
              exact rt_i (w1 := fun uu : (Nat → Int64) × (Nat → Int64) × (Nat → Int64) => [kM o mP mL mC mN mF mR mD mV mX mA mK cm mT ((z5_split pm gm gc fx fa ft fi c).2.1) mU mH mI, kA mN cI 3 gm, kA mC cI 360 gc, kJ mX cJ 9 uu.1, kJ mA cJ 9 uu.2.1, kJ mT cJ 6 ((z5_split pm gm gc fx fa ft fi c).2.2), kJ mI cJ 3 uu.2.2]) hx hb hr hlk hS dX5_split_92 ((z5_detOf_f2 gc fx c, z5_detOf_f3 gc fx fa c, fi)) he_0.symm (by (try dsimp only); rw [he_1, he_2]; exact hP) (by (try dsimp only); rw [he_1, he_2]; exact hD)
        · skip
          refine lv_iload_n hx hb dX5_split_53 rfl (lv_at hl 0 rfl) ?_
          refine lv_goto (tgt := 58) hx hb dX5_split_54 (by decide) ?_
          refine lv_istore_n (lv' := [(2, .int 1), (3, .int 1), (0, .ref o), (1, .int c)]) hx hb dX5_split_58 rfl hl (by decide) rfl (fun ls hl => ?_)
          refine lv_iinc (v := 2) (lv' := [(3, .int 2), (2, .int 1), (0, .ref o), (1, .int c)]) hx hb dX5_split_59 hl (k := 1) rfl (by decide) (by decide) rfl (fun ls hl => ?_)
          refine lv_goto (tgt := 35) hx hb dX5_split_62 (by decide) ?_
          refine lv_iload_n hx hb dX5_split_35 rfl (lv_at hl 0 rfl) ?_
          refine lv_iconst (v := 3) hx hb dX5_split_36 (by decide) ?_
          refine lv_icmp_ge (tgt := 65) hx hb dX5_split_37 (by decide) (fun h => absurd h (by decide)) (fun _ => ?_)
          refine lv_aload_n hx hb dX5_split_40 rfl (lv_at hl 2 rfl) ?_
          refine va_get (D := D) (ci := 5) (v := .ref mA) (C := RX5) (T := TX5) (N := 17) hx hb hts k_2 hown hK.1 hP 0 rfl rfl 9 (by decide) k_4 (fun _ h9 => h9) rfl dX5_split_41 ?_
          refine lv_iconst (v := 4) hx hb dX5_split_44 (by decide) ?_
          refine lv_iload_n hx hb dX5_split_45 rfl (lv_at hl 0 rfl) ?_
          refine lv_imul hx hb dX5_split_46 ?_
          refine lv_eqi (v := 8) (by decide) ?_
          refine ld_l hx hb hK.1 hP 4 1 rfl rfl (ix_lit (by decide)) 8 (by decide) (v := (z5_detOf_f3 gc fx fa c) 8) rfl dX5_split_47 ?_
          refine lv_lconst (v := 0) hx hb dX5_split_48 (by decide) ?_
          refine lb_eq (tgt := 57) hx hb dX5_split_49 rfl dX5_split_50 (by decide) (fun c_19 => ?_) (fun c_19 => ?_)
          · skip
            refine lv_iload_n hx hb dX5_split_57 rfl (lv_at hl 1 rfl) ?_
            refine lv_istore_n (lv' := [(2, .int 1), (3, .int 2), (0, .ref o), (1, .int c)]) hx hb dX5_split_58 rfl hl (by decide) rfl (fun ls hl => ?_)
            refine lv_iinc (v := 3) (lv' := [(3, .int 3), (2, .int 1), (0, .ref o), (1, .int c)]) hx hb dX5_split_59 hl (k := 1) rfl (by decide) (by decide) rfl (fun ls hl => ?_)
            refine lv_goto (tgt := 35) hx hb dX5_split_62 (by decide) ?_
            refine lv_iload_n hx hb dX5_split_35 rfl (lv_at hl 0 rfl) ?_
            refine lv_iconst (v := 3) hx hb dX5_split_36 (by decide) ?_
            refine lv_icmp_ge (tgt := 65) hx hb dX5_split_37 (by decide) (fun _ => ?_) (fun h => absurd (by decide) h)
            refine lv_iload_n hx hb dX5_split_65 rfl (lv_at hl 1 rfl) ?_
            refine lv_ldc hx hb hown k_3 dX5_split_66 ?_
            refine lv_icmp_ne (tgt := 78) hx hb dX5_split_68 (by decide) (fun _ => ?_) (fun h => absurd h (by decide))
            refine lv_aload_n hx hb dX5_split_78 rfl (lv_at hl 2 rfl) ?_
            refine va_get (D := D) (ci := 5) (v := .ref mA) (C := RX5) (T := TX5) (N := 17) hx hb hts k_2 hown hK.1 hP 0 rfl rfl 9 (by decide) k_4 (fun _ h9 => h9) rfl dX5_split_79 ?_
            refine lv_iconst (v := 4) hx hb dX5_split_82 (by decide) ?_
            refine lv_iload_n hx hb dX5_split_83 rfl (lv_at hl 1 rfl) ?_
            refine lv_imul hx hb dX5_split_84 ?_
            refine lv_eqi (v := 4) (by decide) ?_
            refine ld_l hx hb hK.1 hP 4 1 rfl rfl (ix_lit (by decide)) 4 (by decide) (v := (z5_detOf_f3 gc fx fa c) 4) rfl dX5_split_85 ?_
            refine lv_lconst (v := 0) hx hb dX5_split_86 (by decide) ?_
            refine lb_le (tgt := 93) hx hb dX5_split_87 rfl dX5_split_88 (by decide) (fun c_20 => ?_) (fun c_20 => ?_)
            · skip
              refine lv_aload_n hx hb dX5_split_93 rfl (lv_at hl 2 rfl) ?_
              refine va_get (D := D) (ci := 5) (v := .ref mA) (C := RX5) (T := TX5) (N := 17) hx hb hts k_2 hown hK.1 hP 0 rfl rfl 9 (by decide) k_4 (fun _ h9 => h9) rfl dX5_split_94 ?_
              refine lv_iconst (v := 4) hx hb dX5_split_97 (by decide) ?_
              refine lv_iload_n hx hb dX5_split_98 rfl (lv_at hl 1 rfl) ?_
              refine lv_imul hx hb dX5_split_99 ?_
              refine lv_eqi (v := 4) (by decide) ?_
              refine ld_l hx hb hK.1 hP 4 1 rfl rfl (ix_lit (by decide)) 4 (by decide) (v := (z5_detOf_f3 gc fx fa c) 4) rfl dX5_split_100 ?_
              refine lv_lneg hx hb dX5_split_101 ?_
              have hPc := hP.sub (ws' := []) [] rfl
              refine cr_l (va_runS (As := [.long (-((z5_detOf_f3 gc fx fa c) 4))]) (rest := []) ⟨hx, hb, hml, hown, hts⟩ (c_X5_rootOf l D cI cJ (-((z5_detOf_f3 gc fx fa c) 4))) (va_cwS 1 hts gX5_split_X5_rootOf rfl rfl rfl (by decide +kernel) ⟨Nat.le_of_ble_eq_true rfl, Nat.le_of_ble_eq_true rfl⟩) ⟨gd_blR, gd_prR hPc hK⟩ rfl rfl hl.1 rfl (lv_room (Nat.le_of_ble_eq_true rfl)) dX5_split_102 ⟨Nat.zero_le _, Nat.zero_le _⟩) (fun r_102 hw => ?_)
              subst hw
              clear hPc
              refine lv_lstore_n (lv' := [(3, .long (z5_rootOf (-((z5_detOf_f3 gc fx fa c) 4)))), (2, .int 1), (0, .ref o), (1, .int c)]) hx hb dX5_split_105 rfl hl (by decide) rfl (fun ls hl => ?_)
              refine lv_lload_n hx hb dX5_split_106 rfl (lv_at hl 0 rfl) ?_
              refine lv_lload_n hx hb dX5_split_107 rfl (lv_at hl 0 rfl) ?_
              refine lv_lmul hx hb dX5_split_108 ?_
              refine lv_aload_n hx hb dX5_split_109 rfl (lv_at hl 2 rfl) ?_
              refine va_get (D := D) (ci := 5) (v := .ref mA) (C := RX5) (T := TX5) (N := 17) hx hb hts k_2 hown hK.1 hP 0 rfl rfl 9 (by decide) k_4 (fun _ h9 => h9) rfl dX5_split_110 ?_
              refine lv_iconst (v := 4) hx hb dX5_split_113 (by decide) ?_
              refine lv_iload_n hx hb dX5_split_114 rfl (lv_at hl 1 rfl) ?_
              refine lv_imul hx hb dX5_split_115 ?_
              refine lv_eqi (v := 4) (by decide) ?_
              refine ld_l hx hb hK.1 hP 4 1 rfl rfl (ix_lit (by decide)) 4 (by decide) (v := (z5_detOf_f3 gc fx fa c) 4) rfl dX5_split_116 ?_
              refine lv_lneg hx hb dX5_split_117 ?_
              refine lb_eq (tgt := 126) hx hb dX5_split_118 rfl dX5_split_119 (by decide) (fun c_21 => ?_) (fun c_21 => ?_)
              · skip
                refine lv_aload_n hx hb dX5_split_126 rfl (lv_at hl 2 rfl) ?_
                refine lv_lload_n hx hb dX5_split_127 rfl (lv_at hl 0 rfl) ?_
                refine lv_iload_n hx hb dX5_split_128 rfl (lv_at hl 1 rfl) ?_
                have hPc := hP.sub (ws' := [kM o mP mL mC mN mF mR mD mV mX mA mK cm mT 0 mU mH mI, kJ mX cJ 9 (z5_detOf_f2 gc fx c), kJ mA cJ 9 (z5_detOf_f3 gc fx fa c), kJ mT cJ 6 ft, kJ mI cJ 3 fi]) [0, 3, 4, 5, 6] rfl
                have hDc := hD.sub (ws' := [kM o mP mL mC mN mF mR mD mV mX mA mK cm mT 0 mU mH mI, kJ mX cJ 9 (z5_detOf_f2 gc fx c), kJ mA cJ 9 (z5_detOf_f3 gc fx fa c), kJ mT cJ 6 ft, kJ mI cJ 3 fi]) [0, 3, 4, 5, 6] (by decide) rfl
                refine cl_i (wc := [kM o mP mL mC mN mF mR mD mV mX mA mK cm mT 0 mU mH mI, kJ mX cJ 9 (z5_detOf_f2 gc fx c), kJ mA cJ 9 (z5_detOf_f3 gc fx fa c), kJ mT cJ 6 ft, kJ mI cJ 3 fi]) (wr := [kA mN cI 3 gm, kA mC cI 360 gc]) (w1 := fun uu : (Nat → Int64) × (Nat → Int64) => [kM o mP mL mC mN mF mR mD mV mX mA mK cm mT ((z5_takeLines_1 (z5_detOf_f2 gc fx c) (z5_detOf_f3 gc fx fa c) ft fi (z5_rootOf (-((z5_detOf_f3 gc fx fa c) 4)))).2.1) mU mH mI, kJ mX cJ 9 uu.1, kJ mA cJ 9 (z5_detOf_f3 gc fx fa c), kJ mT cJ 6 ((z5_takeLines_1 (z5_detOf_f2 gc fx c) (z5_detOf_f3 gc fx fa c) ft fi (z5_rootOf (-((z5_detOf_f3 gc fx fa c) 4)))).2.2), kJ mI cJ 3 uu.2]) (wn := fun uu : (Nat → Int64) × (Nat → Int64) => [kM o mP mL mC mN mF mR mD mV mX mA mK cm mT ((z5_takeLines_1 (z5_detOf_f2 gc fx c) (z5_detOf_f3 gc fx fa c) ft fi (z5_rootOf (-((z5_detOf_f3 gc fx fa c) 4)))).2.1) mU mH mI, kA mN cI 3 gm, kA mC cI 360 gc, kJ mX cJ 9 uu.1, kJ mA cJ 9 (z5_detOf_f3 gc fx fa c), kJ mT cJ 6 ((z5_takeLines_1 (z5_detOf_f2 gc fx c) (z5_detOf_f3 gc fx fa c) ft fi (z5_rootOf (-((z5_detOf_f3 gc fx fa c) 4)))).2.2), kJ mI cJ 3 uu.2]) (va_runV (As := [.long (z5_rootOf (-((z5_detOf_f3 gc fx fa c) 4))), .int 1]) (rest := []) ⟨hx, hb, hml, hown, hts⟩ (c_X5_takeLines_1 l D cI cJ o mP mL mC mN mF mR mD mV mX mA mK mT mU mH mI cm 0 (z5_detOf_f2 gc fx c) (z5_detOf_f3 gc fx fa c) ft fi (z5_rootOf (-((z5_detOf_f3 gc fx fa c) 4))) (hy13 c_2 c_3 c_13 c_19 c_20 c_21) (hy14 c_2 c_3 c_13 c_19 c_20 c_21) _) (cwV 2 hts gX5_split_X5_takeLines rfl rfl rfl (by decide +kernel) ⟨Nat.le_of_ble_eq_true rfl, Nat.le_of_ble_eq_true rfl⟩) ⟨gd_blP, va_recv hK.1 hPc (ci := 5) (q0 := 0) rfl rfl, gd_prP hPc hK hDc⟩ rfl rfl hl.1 rfl (lv_room (Nat.le_of_ble_eq_true rfl)) dX5_split_129 ⟨Nat.zero_le _, Nat.zero_le _⟩) hP hD hS hA [0, 3, 4, 5, 6] [1, 2] rfl rfl (by decide) (by decide) [2, 0, 1, 3, 4, 5, 6] (by decide) (fun _ => rfl) (fun r_129 uG H locs hw hP hD hS => ?_)
                obtain ⟨y_129_0_13, y_129_1_14⟩ := uG
                have hP : va_P D vwCl [kM o mP mL mC mN mF mR mD mV mX mA mK cm mT ((z5_takeLines_1 (z5_detOf_f2 gc fx c) (z5_detOf_f3 gc fx fa c) ft fi (z5_rootOf (-((z5_detOf_f3 gc fx fa c) 4)))).2.1) mU mH mI, kA mN cI 3 gm, kA mC cI 360 gc, kJ mX cJ 9 y_129_0_13, kJ mA cJ 9 (z5_detOf_f3 gc fx fa c), kJ mT cJ 6 ((z5_takeLines_1 (z5_detOf_f2 gc fx c) (z5_detOf_f3 gc fx fa c) ft fi (z5_rootOf (-((z5_detOf_f3 gc fx fa c) 4)))).2.2), kJ mI cJ 3 y_129_1_14] H := hP
                have hD : va_D A [kM o mP mL mC mN mF mR mD mV mX mA mK cm mT ((z5_takeLines_1 (z5_detOf_f2 gc fx c) (z5_detOf_f3 gc fx fa c) ft fi (z5_rootOf (-((z5_detOf_f3 gc fx fa c) 4)))).2.1) mU mH mI, kA mN cI 3 gm, kA mC cI 360 gc, kJ mX cJ 9 y_129_0_13, kJ mA cJ 9 (z5_detOf_f3 gc fx fa c), kJ mT cJ 6 ((z5_takeLines_1 (z5_detOf_f2 gc fx c) (z5_detOf_f3 gc fx fa c) ft fi (z5_rootOf (-((z5_detOf_f3 gc fx fa c) 4)))).2.2), kJ mI cJ 3 y_129_1_14] := hD
                have ea_0 : (z5_takeLines_1 (z5_detOf_f2 gc fx c) (z5_detOf_f3 gc fx fa c) ft fi (z5_rootOf (-((z5_detOf_f3 gc fx fa c) 4)))).2.1 = z5_split_v4 gc fx fa ft fi c := by delta z5_split_v4; rfl
                have ea_1 : (z5_takeLines_1 (z5_detOf_f2 gc fx c) (z5_detOf_f3 gc fx fa c) ft fi (z5_rootOf (-((z5_detOf_f3 gc fx fa c) 4)))).2.2 = z5_split_v5 gc fx fa ft fi c := by delta z5_split_v5; rfl
                rw [ea_0, ea_1] at hP hD
                clear ea_0 ea_1
                subst hw
                refine lv_eqi (v := z5_split_v6 gc fx fa ft fi c) (by delta z5_split_v6; rfl) ?_
                clear hPc hDc
                have he : z5_split pm gm gc fx fa ft fi c = (z5_split_v6 gc fx fa ft fi c, z5_split_v4 gc fx fa ft fi c, z5_split_v5 gc fx fa ft fi c) := by unfold z5_split; rw [if_neg c_1, if_pos c_2, if_neg c_3, if_neg c_13, if_pos c_19, if_pos c_20, if_pos c_21]
                have he_0 : (z5_split pm gm gc fx fa ft fi c).1 = z5_split_v6 gc fx fa ft fi c := by rw [he]
                have he_1 : (z5_split pm gm gc fx fa ft fi c).2.1 = z5_split_v4 gc fx fa ft fi c := by rw [he]
                have he_2 : (z5_split pm gm gc fx fa ft fi c).2.2 = z5_split_v5 gc fx fa ft fi c := by rw [he]
                exact rt_i (w1 := fun uu : (Nat → Int64) × (Nat → Int64) × (Nat → Int64) => [kM o mP mL mC mN mF mR mD mV mX mA mK cm mT ((z5_split pm gm gc fx fa ft fi c).2.1) mU mH mI, kA mN cI 3 gm, kA mC cI 360 gc, kJ mX cJ 9 uu.1, kJ mA cJ 9 uu.2.1, kJ mT cJ 6 ((z5_split pm gm gc fx fa ft fi c).2.2), kJ mI cJ 3 uu.2.2]) hx hb hr hlk hS dX5_split_132 ((y_129_0_13, (z5_detOf_f3 gc fx fa c), y_129_1_14)) he_0.symm (by (try dsimp only); rw [he_1, he_2]; exact hP) (by (try dsimp only); rw [he_1, he_2]; exact hD)
              · skip
                refine lv_iconst (v := 4) hx hb dX5_split_122 (by decide) ?_
                refine lv_goto (tgt := 132) hx hb dX5_split_123 (by decide) ?_
                have he : z5_split pm gm gc fx fa ft fi c = (4, 0, ft) := by unfold z5_split; rw [if_neg c_1, if_pos c_2, if_neg c_3, if_neg c_13, if_pos c_19, if_pos c_20, if_neg c_21]
                have he_0 : (z5_split pm gm gc fx fa ft fi c).1 = 4 := by rw [he]
                have he_1 : (z5_split pm gm gc fx fa ft fi c).2.1 = 0 := by rw [he]
                have he_2 : (z5_split pm gm gc fx fa ft fi c).2.2 = ft := by rw [he]
                exact rt_i (w1 := fun uu : (Nat → Int64) × (Nat → Int64) × (Nat → Int64) => [kM o mP mL mC mN mF mR mD mV mX mA mK cm mT ((z5_split pm gm gc fx fa ft fi c).2.1) mU mH mI, kA mN cI 3 gm, kA mC cI 360 gc, kJ mX cJ 9 uu.1, kJ mA cJ 9 uu.2.1, kJ mT cJ 6 ((z5_split pm gm gc fx fa ft fi c).2.2), kJ mI cJ 3 uu.2.2]) hx hb hr hlk hS dX5_split_132 ((z5_detOf_f2 gc fx c, z5_detOf_f3 gc fx fa c, fi)) he_0.symm (by (try dsimp only); rw [he_1, he_2]; exact hP) (by (try dsimp only); rw [he_1, he_2]; exact hD)
            · skip
              refine lv_iconst (v := 0) hx hb dX5_split_91 (by decide) ?_
              have he : z5_split pm gm gc fx fa ft fi c = (0, 0, ft) := by unfold z5_split; rw [if_neg c_1, if_pos c_2, if_neg c_3, if_neg c_13, if_pos c_19, if_neg c_20]
              have he_0 : (z5_split pm gm gc fx fa ft fi c).1 = 0 := by rw [he]
              have he_1 : (z5_split pm gm gc fx fa ft fi c).2.1 = 0 := by rw [he]
              have he_2 : (z5_split pm gm gc fx fa ft fi c).2.2 = ft := by rw [he]
              exact rt_i (w1 := fun uu : (Nat → Int64) × (Nat → Int64) × (Nat → Int64) => [kM o mP mL mC mN mF mR mD mV mX mA mK cm mT ((z5_split pm gm gc fx fa ft fi c).2.1) mU mH mI, kA mN cI 3 gm, kA mC cI 360 gc, kJ mX cJ 9 uu.1, kJ mA cJ 9 uu.2.1, kJ mT cJ 6 ((z5_split pm gm gc fx fa ft fi c).2.2), kJ mI cJ 3 uu.2.2]) hx hb hr hlk hS dX5_split_92 ((z5_detOf_f2 gc fx c, z5_detOf_f3 gc fx fa c, fi)) he_0.symm (by (try dsimp only); rw [he_1, he_2]; exact hP) (by (try dsimp only); rw [he_1, he_2]; exact hD)
          · skip
            refine lv_iload_n hx hb dX5_split_53 rfl (lv_at hl 0 rfl) ?_
            refine lv_goto (tgt := 58) hx hb dX5_split_54 (by decide) ?_
            refine lv_istore_n (lv' := [(2, .int 2), (3, .int 2), (0, .ref o), (1, .int c)]) hx hb dX5_split_58 rfl hl (by decide) rfl (fun ls hl => ?_)
            refine lv_iinc (v := 3) (lv' := [(3, .int 3), (2, .int 2), (0, .ref o), (1, .int c)]) hx hb dX5_split_59 hl (k := 1) rfl (by decide) (by decide) rfl (fun ls hl => ?_)
            refine lv_goto (tgt := 35) hx hb dX5_split_62 (by decide) ?_
            refine lv_iload_n hx hb dX5_split_35 rfl (lv_at hl 0 rfl) ?_
            refine lv_iconst (v := 3) hx hb dX5_split_36 (by decide) ?_
            refine lv_icmp_ge (tgt := 65) hx hb dX5_split_37 (by decide) (fun _ => ?_) (fun h => absurd (by decide) h)
            refine lv_iload_n hx hb dX5_split_65 rfl (lv_at hl 1 rfl) ?_
            refine lv_ldc hx hb hown k_3 dX5_split_66 ?_
            refine lv_icmp_ne (tgt := 78) hx hb dX5_split_68 (by decide) (fun _ => ?_) (fun h => absurd h (by decide))
            refine lv_aload_n hx hb dX5_split_78 rfl (lv_at hl 2 rfl) ?_
            refine va_get (D := D) (ci := 5) (v := .ref mA) (C := RX5) (T := TX5) (N := 17) hx hb hts k_2 hown hK.1 hP 0 rfl rfl 9 (by decide) k_4 (fun _ h9 => h9) rfl dX5_split_79 ?_
            refine lv_iconst (v := 4) hx hb dX5_split_82 (by decide) ?_
            refine lv_iload_n hx hb dX5_split_83 rfl (lv_at hl 1 rfl) ?_
            refine lv_imul hx hb dX5_split_84 ?_
            refine lv_eqi (v := 8) (by decide) ?_
            refine ld_l hx hb hK.1 hP 4 1 rfl rfl (ix_lit (by decide)) 8 (by decide) (v := (z5_detOf_f3 gc fx fa c) 8) rfl dX5_split_85 ?_
            refine lv_lconst (v := 0) hx hb dX5_split_86 (by decide) ?_
            refine lb_le (tgt := 93) hx hb dX5_split_87 rfl dX5_split_88 (by decide) (fun c_22 => ?_) (fun c_22 => ?_)
            · skip
              refine lv_aload_n hx hb dX5_split_93 rfl (lv_at hl 2 rfl) ?_
              refine va_get (D := D) (ci := 5) (v := .ref mA) (C := RX5) (T := TX5) (N := 17) hx hb hts k_2 hown hK.1 hP 0 rfl rfl 9 (by decide) k_4 (fun _ h9 => h9) rfl dX5_split_94 ?_
              refine lv_iconst (v := 4) hx hb dX5_split_97 (by decide) ?_
              refine lv_iload_n hx hb dX5_split_98 rfl (lv_at hl 1 rfl) ?_
              refine lv_imul hx hb dX5_split_99 ?_
              refine lv_eqi (v := 8) (by decide) ?_
              refine ld_l hx hb hK.1 hP 4 1 rfl rfl (ix_lit (by decide)) 8 (by decide) (v := (z5_detOf_f3 gc fx fa c) 8) rfl dX5_split_100 ?_
              refine lv_lneg hx hb dX5_split_101 ?_
              have hPc := hP.sub (ws' := []) [] rfl
              refine cr_l (va_runS (As := [.long (-((z5_detOf_f3 gc fx fa c) 8))]) (rest := []) ⟨hx, hb, hml, hown, hts⟩ (c_X5_rootOf l D cI cJ (-((z5_detOf_f3 gc fx fa c) 8))) (va_cwS 1 hts gX5_split_X5_rootOf rfl rfl rfl (by decide +kernel) ⟨Nat.le_of_ble_eq_true rfl, Nat.le_of_ble_eq_true rfl⟩) ⟨gd_blR, gd_prR hPc hK⟩ rfl rfl hl.1 rfl (lv_room (Nat.le_of_ble_eq_true rfl)) dX5_split_102 ⟨Nat.zero_le _, Nat.zero_le _⟩) (fun r_102 hw => ?_)
              subst hw
              clear hPc
              refine lv_lstore_n (lv' := [(3, .long (z5_rootOf (-((z5_detOf_f3 gc fx fa c) 8)))), (2, .int 2), (0, .ref o), (1, .int c)]) hx hb dX5_split_105 rfl hl (by decide) rfl (fun ls hl => ?_)
              refine lv_lload_n hx hb dX5_split_106 rfl (lv_at hl 0 rfl) ?_
              refine lv_lload_n hx hb dX5_split_107 rfl (lv_at hl 0 rfl) ?_
              refine lv_lmul hx hb dX5_split_108 ?_
              refine lv_aload_n hx hb dX5_split_109 rfl (lv_at hl 2 rfl) ?_
              refine va_get (D := D) (ci := 5) (v := .ref mA) (C := RX5) (T := TX5) (N := 17) hx hb hts k_2 hown hK.1 hP 0 rfl rfl 9 (by decide) k_4 (fun _ h9 => h9) rfl dX5_split_110 ?_
              refine lv_iconst (v := 4) hx hb dX5_split_113 (by decide) ?_
              refine lv_iload_n hx hb dX5_split_114 rfl (lv_at hl 1 rfl) ?_
              refine lv_imul hx hb dX5_split_115 ?_
              refine lv_eqi (v := 8) (by decide) ?_
              refine ld_l hx hb hK.1 hP 4 1 rfl rfl (ix_lit (by decide)) 8 (by decide) (v := (z5_detOf_f3 gc fx fa c) 8) rfl dX5_split_116 ?_
              refine lv_lneg hx hb dX5_split_117 ?_
              refine lb_eq (tgt := 126) hx hb dX5_split_118 rfl dX5_split_119 (by decide) (fun c_23 => ?_) (fun c_23 => ?_)
              · skip
                refine lv_aload_n hx hb dX5_split_126 rfl (lv_at hl 2 rfl) ?_
                refine lv_lload_n hx hb dX5_split_127 rfl (lv_at hl 0 rfl) ?_
                refine lv_iload_n hx hb dX5_split_128 rfl (lv_at hl 1 rfl) ?_
                have hPc := hP.sub (ws' := [kM o mP mL mC mN mF mR mD mV mX mA mK cm mT 0 mU mH mI, kJ mX cJ 9 (z5_detOf_f2 gc fx c), kJ mA cJ 9 (z5_detOf_f3 gc fx fa c), kJ mT cJ 6 ft, kJ mI cJ 3 fi]) [0, 3, 4, 5, 6] rfl
                have hDc := hD.sub (ws' := [kM o mP mL mC mN mF mR mD mV mX mA mK cm mT 0 mU mH mI, kJ mX cJ 9 (z5_detOf_f2 gc fx c), kJ mA cJ 9 (z5_detOf_f3 gc fx fa c), kJ mT cJ 6 ft, kJ mI cJ 3 fi]) [0, 3, 4, 5, 6] (by decide) rfl
                refine cl_i (wc := [kM o mP mL mC mN mF mR mD mV mX mA mK cm mT 0 mU mH mI, kJ mX cJ 9 (z5_detOf_f2 gc fx c), kJ mA cJ 9 (z5_detOf_f3 gc fx fa c), kJ mT cJ 6 ft, kJ mI cJ 3 fi]) (wr := [kA mN cI 3 gm, kA mC cI 360 gc]) (w1 := fun uu : (Nat → Int64) × (Nat → Int64) => [kM o mP mL mC mN mF mR mD mV mX mA mK cm mT ((z5_takeLines_2 (z5_detOf_f2 gc fx c) (z5_detOf_f3 gc fx fa c) ft fi (z5_rootOf (-((z5_detOf_f3 gc fx fa c) 8)))).2.1) mU mH mI, kJ mX cJ 9 uu.1, kJ mA cJ 9 (z5_detOf_f3 gc fx fa c), kJ mT cJ 6 ((z5_takeLines_2 (z5_detOf_f2 gc fx c) (z5_detOf_f3 gc fx fa c) ft fi (z5_rootOf (-((z5_detOf_f3 gc fx fa c) 8)))).2.2), kJ mI cJ 3 uu.2]) (wn := fun uu : (Nat → Int64) × (Nat → Int64) => [kM o mP mL mC mN mF mR mD mV mX mA mK cm mT ((z5_takeLines_2 (z5_detOf_f2 gc fx c) (z5_detOf_f3 gc fx fa c) ft fi (z5_rootOf (-((z5_detOf_f3 gc fx fa c) 8)))).2.1) mU mH mI, kA mN cI 3 gm, kA mC cI 360 gc, kJ mX cJ 9 uu.1, kJ mA cJ 9 (z5_detOf_f3 gc fx fa c), kJ mT cJ 6 ((z5_takeLines_2 (z5_detOf_f2 gc fx c) (z5_detOf_f3 gc fx fa c) ft fi (z5_rootOf (-((z5_detOf_f3 gc fx fa c) 8)))).2.2), kJ mI cJ 3 uu.2]) (va_runV (As := [.long (z5_rootOf (-((z5_detOf_f3 gc fx fa c) 8))), .int 2]) (rest := []) ⟨hx, hb, hml, hown, hts⟩ (c_X5_takeLines_2 l D cI cJ o mP mL mC mN mF mR mD mV mX mA mK mT mU mH mI cm 0 (z5_detOf_f2 gc fx c) (z5_detOf_f3 gc fx fa c) ft fi (z5_rootOf (-((z5_detOf_f3 gc fx fa c) 8))) (hy15 c_2 c_3 c_13 c_19 c_22 c_23) (hy16 c_2 c_3 c_13 c_19 c_22 c_23) _) (cwV 2 hts gX5_split_X5_takeLines rfl rfl rfl (by decide +kernel) ⟨Nat.le_of_ble_eq_true rfl, Nat.le_of_ble_eq_true rfl⟩) ⟨gd_blP, va_recv hK.1 hPc (ci := 5) (q0 := 0) rfl rfl, gd_prP hPc hK hDc⟩ rfl rfl hl.1 rfl (lv_room (Nat.le_of_ble_eq_true rfl)) dX5_split_129 ⟨Nat.zero_le _, Nat.zero_le _⟩) hP hD hS hA [0, 3, 4, 5, 6] [1, 2] rfl rfl (by decide) (by decide) [2, 0, 1, 3, 4, 5, 6] (by decide) (fun _ => rfl) (fun r_129 uG H locs hw hP hD hS => ?_)
                obtain ⟨y_129_0_15, y_129_1_16⟩ := uG
                have hP : va_P D vwCl [kM o mP mL mC mN mF mR mD mV mX mA mK cm mT ((z5_takeLines_2 (z5_detOf_f2 gc fx c) (z5_detOf_f3 gc fx fa c) ft fi (z5_rootOf (-((z5_detOf_f3 gc fx fa c) 8)))).2.1) mU mH mI, kA mN cI 3 gm, kA mC cI 360 gc, kJ mX cJ 9 y_129_0_15, kJ mA cJ 9 (z5_detOf_f3 gc fx fa c), kJ mT cJ 6 ((z5_takeLines_2 (z5_detOf_f2 gc fx c) (z5_detOf_f3 gc fx fa c) ft fi (z5_rootOf (-((z5_detOf_f3 gc fx fa c) 8)))).2.2), kJ mI cJ 3 y_129_1_16] H := hP
                have hD : va_D A [kM o mP mL mC mN mF mR mD mV mX mA mK cm mT ((z5_takeLines_2 (z5_detOf_f2 gc fx c) (z5_detOf_f3 gc fx fa c) ft fi (z5_rootOf (-((z5_detOf_f3 gc fx fa c) 8)))).2.1) mU mH mI, kA mN cI 3 gm, kA mC cI 360 gc, kJ mX cJ 9 y_129_0_15, kJ mA cJ 9 (z5_detOf_f3 gc fx fa c), kJ mT cJ 6 ((z5_takeLines_2 (z5_detOf_f2 gc fx c) (z5_detOf_f3 gc fx fa c) ft fi (z5_rootOf (-((z5_detOf_f3 gc fx fa c) 8)))).2.2), kJ mI cJ 3 y_129_1_16] := hD
                have ea_0 : (z5_takeLines_2 (z5_detOf_f2 gc fx c) (z5_detOf_f3 gc fx fa c) ft fi (z5_rootOf (-((z5_detOf_f3 gc fx fa c) 8)))).2.1 = z5_split_v1 gc fx fa ft fi c := by delta z5_split_v1; rfl
                have ea_1 : (z5_takeLines_2 (z5_detOf_f2 gc fx c) (z5_detOf_f3 gc fx fa c) ft fi (z5_rootOf (-((z5_detOf_f3 gc fx fa c) 8)))).2.2 = z5_split_v2 gc fx fa ft fi c := by delta z5_split_v2; rfl
                rw [ea_0, ea_1] at hP hD
                clear ea_0 ea_1
                subst hw
                refine lv_eqi (v := z5_split_v3 gc fx fa ft fi c) (by delta z5_split_v3; rfl) ?_
                clear hPc hDc
                have he : z5_split pm gm gc fx fa ft fi c = (z5_split_v3 gc fx fa ft fi c, z5_split_v1 gc fx fa ft fi c, z5_split_v2 gc fx fa ft fi c) := by unfold z5_split; rw [if_neg c_1, if_pos c_2, if_neg c_3, if_neg c_13, if_neg c_19, if_pos c_22, if_pos c_23]
                have he_0 : (z5_split pm gm gc fx fa ft fi c).1 = z5_split_v3 gc fx fa ft fi c := by rw [he]
                have he_1 : (z5_split pm gm gc fx fa ft fi c).2.1 = z5_split_v1 gc fx fa ft fi c := by rw [he]
                have he_2 : (z5_split pm gm gc fx fa ft fi c).2.2 = z5_split_v2 gc fx fa ft fi c := by rw [he]
                exact rt_i (w1 := fun uu : (Nat → Int64) × (Nat → Int64) × (Nat → Int64) => [kM o mP mL mC mN mF mR mD mV mX mA mK cm mT ((z5_split pm gm gc fx fa ft fi c).2.1) mU mH mI, kA mN cI 3 gm, kA mC cI 360 gc, kJ mX cJ 9 uu.1, kJ mA cJ 9 uu.2.1, kJ mT cJ 6 ((z5_split pm gm gc fx fa ft fi c).2.2), kJ mI cJ 3 uu.2.2]) hx hb hr hlk hS dX5_split_132 ((y_129_0_15, (z5_detOf_f3 gc fx fa c), y_129_1_16)) he_0.symm (by (try dsimp only); rw [he_1, he_2]; exact hP) (by (try dsimp only); rw [he_1, he_2]; exact hD)
              · skip
                refine lv_iconst (v := 4) hx hb dX5_split_122 (by decide) ?_
                refine lv_goto (tgt := 132) hx hb dX5_split_123 (by decide) ?_
                have he : z5_split pm gm gc fx fa ft fi c = (4, 0, ft) := by unfold z5_split; rw [if_neg c_1, if_pos c_2, if_neg c_3, if_neg c_13, if_neg c_19, if_pos c_22, if_neg c_23]
                have he_0 : (z5_split pm gm gc fx fa ft fi c).1 = 4 := by rw [he]
                have he_1 : (z5_split pm gm gc fx fa ft fi c).2.1 = 0 := by rw [he]
                have he_2 : (z5_split pm gm gc fx fa ft fi c).2.2 = ft := by rw [he]
                exact rt_i (w1 := fun uu : (Nat → Int64) × (Nat → Int64) × (Nat → Int64) => [kM o mP mL mC mN mF mR mD mV mX mA mK cm mT ((z5_split pm gm gc fx fa ft fi c).2.1) mU mH mI, kA mN cI 3 gm, kA mC cI 360 gc, kJ mX cJ 9 uu.1, kJ mA cJ 9 uu.2.1, kJ mT cJ 6 ((z5_split pm gm gc fx fa ft fi c).2.2), kJ mI cJ 3 uu.2.2]) hx hb hr hlk hS dX5_split_132 ((z5_detOf_f2 gc fx c, z5_detOf_f3 gc fx fa c, fi)) he_0.symm (by (try dsimp only); rw [he_1, he_2]; exact hP) (by (try dsimp only); rw [he_1, he_2]; exact hD)
            · skip
              refine lv_iconst (v := 0) hx hb dX5_split_91 (by decide) ?_
              have he : z5_split pm gm gc fx fa ft fi c = (0, 0, ft) := by unfold z5_split; rw [if_neg c_1, if_pos c_2, if_neg c_3, if_neg c_13, if_neg c_19, if_neg c_22]
              have he_0 : (z5_split pm gm gc fx fa ft fi c).1 = 0 := by rw [he]
              have he_1 : (z5_split pm gm gc fx fa ft fi c).2.1 = 0 := by rw [he]
              have he_2 : (z5_split pm gm gc fx fa ft fi c).2.2 = ft := by rw [he]
              exact rt_i (w1 := fun uu : (Nat → Int64) × (Nat → Int64) × (Nat → Int64) => [kM o mP mL mC mN mF mR mD mV mX mA mK cm mT ((z5_split pm gm gc fx fa ft fi c).2.1) mU mH mI, kA mN cI 3 gm, kA mC cI 360 gc, kJ mX cJ 9 uu.1, kJ mA cJ 9 uu.2.1, kJ mT cJ 6 ((z5_split pm gm gc fx fa ft fi c).2.2), kJ mI cJ 3 uu.2.2]) hx hb hr hlk hS dX5_split_92 ((z5_detOf_f2 gc fx c, z5_detOf_f3 gc fx fa c, fi)) he_0.symm (by (try dsimp only); rw [he_1, he_2]; exact hP) (by (try dsimp only); rw [he_1, he_2]; exact hD)
    · skip
      refine lv_ldc hx hb hown k_5 dX5_split_22 ?_
      have he : z5_split pm gm gc fx fa ft fi c = ((-1000004), pm, ft) := by unfold z5_split; rw [if_neg c_1, if_neg c_2]
      have he_0 : (z5_split pm gm gc fx fa ft fi c).1 = (-1000004) := by rw [he]
      have he_1 : (z5_split pm gm gc fx fa ft fi c).2.1 = pm := by rw [he]
      have he_2 : (z5_split pm gm gc fx fa ft fi c).2.2 = ft := by rw [he]
      exact rt_i (w1 := fun uu : (Nat → Int64) × (Nat → Int64) × (Nat → Int64) => [kM o mP mL mC mN mF mR mD mV mX mA mK cm mT ((z5_split pm gm gc fx fa ft fi c).2.1) mU mH mI, kA mN cI 3 gm, kA mC cI 360 gc, kJ mX cJ 9 uu.1, kJ mA cJ 9 uu.2.1, kJ mT cJ 6 ((z5_split pm gm gc fx fa ft fi c).2.2), kJ mI cJ 3 uu.2.2]) hx hb hr hlk hS dX5_split_24 ((z5_detOf_f2 gc fx c, z5_detOf_f3 gc fx fa c, fi)) he_0.symm (by (try dsimp only); rw [he_1, he_2]; exact hP) (by (try dsimp only); rw [he_1, he_2]; exact hD)
  · skip
    refine lv_ldc hx hb hown k_6 dX5_split_9 ?_
    have he : z5_split pm gm gc fx fa ft fi c = ((-1000002), pm, ft) := by unfold z5_split; rw [if_pos c_1]
    have he_0 : (z5_split pm gm gc fx fa ft fi c).1 = (-1000002) := by rw [he]
    have he_1 : (z5_split pm gm gc fx fa ft fi c).2.1 = pm := by rw [he]
    have he_2 : (z5_split pm gm gc fx fa ft fi c).2.2 = ft := by rw [he]
    exact rt_i (w1 := fun uu : (Nat → Int64) × (Nat → Int64) × (Nat → Int64) => [kM o mP mL mC mN mF mR mD mV mX mA mK cm mT ((z5_split pm gm gc fx fa ft fi c).2.1) mU mH mI, kA mN cI 3 gm, kA mC cI 360 gc, kJ mX cJ 9 uu.1, kJ mA cJ 9 uu.2.1, kJ mT cJ 6 ((z5_split pm gm gc fx fa ft fi c).2.2), kJ mI cJ 3 uu.2.2]) hx hb hr hlk hS dX5_split_11 ((fx, fa, fi)) he_0.symm (by (try dsimp only); rw [he_1, he_2]; exact hP) (by (try dsimp only); rw [he_1, he_2]; exact hD)
