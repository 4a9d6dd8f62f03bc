/-! contracts of the reference: 36.ycpdu -/
def g_MD_craftPdu (M : fl_M) (x1 : Int64) : fl_M :=
  if (((j_lshr x1 44) &&& 15).toInt32) < 1 then (M) else (if 5 < (((j_lshr x1 44) &&& 15).toInt32) then (M) else (if (((j_lshr x1 44) &&& 15).toInt32) = 5 then (if (M.1 25 ((((j_lshr x1 40) &&& 15).toInt32).toNatClampNeg)) = 0 then (M) else (if (M.1 36 ((((j_lshr x1 40) &&& 15).toInt32).toNatClampNeg)) = 0 then (if ((fl_i M 25 ((((j_lshr x1 40) &&& 15).toInt32).toNatClampNeg) (M.1 25 ((((j_lshr x1 40) &&& 15).toInt32).toNatClampNeg))).1 25 ((((j_lshr x1 40) &&& 15).toInt32).toNatClampNeg)) = 1 then ((fl_i (fl_i (fl_i M 25 ((((j_lshr x1 40) &&& 15).toInt32).toNatClampNeg) (M.1 25 ((((j_lshr x1 40) &&& 15).toInt32).toNatClampNeg))) 36 ((((j_lshr x1 40) &&& 15).toInt32).toNatClampNeg) 0) 35 ((((j_lshr x1 40) &&& 15).toInt32).toNatClampNeg) (12 * (M.1 0 1)))) else (if ((fl_i M 25 ((((j_lshr x1 40) &&& 15).toInt32).toNatClampNeg) (M.1 25 ((((j_lshr x1 40) &&& 15).toInt32).toNatClampNeg))).1 25 ((((j_lshr x1 40) &&& 15).toInt32).toNatClampNeg)) = 2 then ((g_MD_close (fl_i (fl_i M 25 ((((j_lshr x1 40) &&& 15).toInt32).toNatClampNeg) (M.1 25 ((((j_lshr x1 40) &&& 15).toInt32).toNatClampNeg))) 36 ((((j_lshr x1 40) &&& 15).toInt32).toNatClampNeg) 0) (((j_lshr x1 40) &&& 15).toInt32))) else ((fl_i (fl_i M 25 ((((j_lshr x1 40) &&& 15).toInt32).toNatClampNeg) (M.1 25 ((((j_lshr x1 40) &&& 15).toInt32).toNatClampNeg))) 36 ((((j_lshr x1 40) &&& 15).toInt32).toNatClampNeg) 0)))) else (if ((fl_i M 25 ((((j_lshr x1 40) &&& 15).toInt32).toNatClampNeg) (M.1 25 ((((j_lshr x1 40) &&& 15).toInt32).toNatClampNeg))).1 25 ((((j_lshr x1 40) &&& 15).toInt32).toNatClampNeg)) = 1 then ((fl_i (fl_i (fl_i M 25 ((((j_lshr x1 40) &&& 15).toInt32).toNatClampNeg) (M.1 25 ((((j_lshr x1 40) &&& 15).toInt32).toNatClampNeg))) 36 ((((j_lshr x1 40) &&& 15).toInt32).toNatClampNeg) 1) 35 ((((j_lshr x1 40) &&& 15).toInt32).toNatClampNeg) (12 * (M.1 0 1)))) else (if ((fl_i M 25 ((((j_lshr x1 40) &&& 15).toInt32).toNatClampNeg) (M.1 25 ((((j_lshr x1 40) &&& 15).toInt32).toNatClampNeg))).1 25 ((((j_lshr x1 40) &&& 15).toInt32).toNatClampNeg)) = 2 then ((g_MD_close (fl_i (fl_i M 25 ((((j_lshr x1 40) &&& 15).toInt32).toNatClampNeg) (M.1 25 ((((j_lshr x1 40) &&& 15).toInt32).toNatClampNeg))) 36 ((((j_lshr x1 40) &&& 15).toInt32).toNatClampNeg) 1) (((j_lshr x1 40) &&& 15).toInt32))) else ((fl_i (fl_i M 25 ((((j_lshr x1 40) &&& 15).toInt32).toNatClampNeg) (M.1 25 ((((j_lshr x1 40) &&& 15).toInt32).toNatClampNeg))) 36 ((((j_lshr x1 40) &&& 15).toInt32).toNatClampNeg) 1)))))) else (if (M.1 25 ((((j_lshr x1 40) &&& 15).toInt32).toNatClampNeg)) = 0 then (if (M.1 36 ((((j_lshr x1 40) &&& 15).toInt32).toNatClampNeg)) = 0 then (if (((j_lshr x1 44) &&& 15).toInt32) = 3 then (if ((fl_i M 25 ((((j_lshr x1 40) &&& 15).toInt32).toNatClampNeg) 1).1 25 ((((j_lshr x1 40) &&& 15).toInt32).toNatClampNeg)) = 1 then (if ((g_MD_takes (fl_i (fl_i (fl_i M 25 ((((j_lshr x1 40) &&& 15).toInt32).toNatClampNeg) 1) 36 ((((j_lshr x1 40) &&& 15).toInt32).toNatClampNeg) 1) 35 ((((j_lshr x1 40) &&& 15).toInt32).toNatClampNeg) (12 * (M.1 0 1))) (((j_lshr x1 40) &&& 15).toInt32) (((j_lshr x1 44) &&& 15).toInt32) (((j_lshr x1 32) &&& 255).toInt32) x1.toInt32).1) = 0 then ((g_MD_takes (fl_i (fl_i (fl_i M 25 ((((j_lshr x1 40) &&& 15).toInt32).toNatClampNeg) 1) 36 ((((j_lshr x1 40) &&& 15).toInt32).toNatClampNeg) 1) 35 ((((j_lshr x1 40) &&& 15).toInt32).toNatClampNeg) (12 * (M.1 0 1))) (((j_lshr x1 40) &&& 15).toInt32) (((j_lshr x1 44) &&& 15).toInt32) (((j_lshr x1 32) &&& 255).toInt32) x1.toInt32).2) else ((g_MD_whole ((g_MD_takes (fl_i (fl_i (fl_i M 25 ((((j_lshr x1 40) &&& 15).toInt32).toNatClampNeg) 1) 36 ((((j_lshr x1 40) &&& 15).toInt32).toNatClampNeg) 1) 35 ((((j_lshr x1 40) &&& 15).toInt32).toNatClampNeg) (12 * (M.1 0 1))) (((j_lshr x1 40) &&& 15).toInt32) (((j_lshr x1 44) &&& 15).toInt32) (((j_lshr x1 32) &&& 255).toInt32) x1.toInt32).2) (((j_lshr x1 40) &&& 15).toInt32) (((j_lshr x1 44) &&& 15).toInt32)))) else (if ((fl_i M 25 ((((j_lshr x1 40) &&& 15).toInt32).toNatClampNeg) 1).1 25 ((((j_lshr x1 40) &&& 15).toInt32).toNatClampNeg)) = 2 then ((fl_i (fl_i M 25 ((((j_lshr x1 40) &&& 15).toInt32).toNatClampNeg) 1) 36 ((((j_lshr x1 40) &&& 15).toInt32).toNatClampNeg) 1)) else ((fl_i (fl_i M 25 ((((j_lshr x1 40) &&& 15).toInt32).toNatClampNeg) 1) 36 ((((j_lshr x1 40) &&& 15).toInt32).toNatClampNeg) 1)))) else (if (((j_lshr x1 44) &&& 15).toInt32) = 4 then (if ((fl_i M 25 ((((j_lshr x1 40) &&& 15).toInt32).toNatClampNeg) 1).1 25 ((((j_lshr x1 40) &&& 15).toInt32).toNatClampNeg)) = 1 then ((g_MD_finish (fl_i (fl_i (fl_i M 25 ((((j_lshr x1 40) &&& 15).toInt32).toNatClampNeg) 1) 36 ((((j_lshr x1 40) &&& 15).toInt32).toNatClampNeg) 1) 35 ((((j_lshr x1 40) &&& 15).toInt32).toNatClampNeg) (12 * (M.1 0 1))) (((j_lshr x1 40) &&& 15).toInt32) 5)) else (if ((fl_i M 25 ((((j_lshr x1 40) &&& 15).toInt32).toNatClampNeg) 1).1 25 ((((j_lshr x1 40) &&& 15).toInt32).toNatClampNeg)) = 2 then ((fl_i (fl_i M 25 ((((j_lshr x1 40) &&& 15).toInt32).toNatClampNeg) 1) 36 ((((j_lshr x1 40) &&& 15).toInt32).toNatClampNeg) 1)) else ((fl_i (fl_i M 25 ((((j_lshr x1 40) &&& 15).toInt32).toNatClampNeg) 1) 36 ((((j_lshr x1 40) &&& 15).toInt32).toNatClampNeg) 1)))) else (if ((fl_i M 25 ((((j_lshr x1 40) &&& 15).toInt32).toNatClampNeg) 1).1 25 ((((j_lshr x1 40) &&& 15).toInt32).toNatClampNeg)) = 1 then (if 4 ≤ (((j_lshr x1 44) &&& 15).toInt32) then ((fl_i (fl_i (fl_i M 25 ((((j_lshr x1 40) &&& 15).toInt32).toNatClampNeg) 1) 36 ((((j_lshr x1 40) &&& 15).toInt32).toNatClampNeg) 0) 35 ((((j_lshr x1 40) &&& 15).toInt32).toNatClampNeg) (12 * (M.1 0 1)))) else (if ((g_MD_takes (fl_i (fl_i (fl_i M 25 ((((j_lshr x1 40) &&& 15).toInt32).toNatClampNeg) 1) 36 ((((j_lshr x1 40) &&& 15).toInt32).toNatClampNeg) 0) 35 ((((j_lshr x1 40) &&& 15).toInt32).toNatClampNeg) (12 * (M.1 0 1))) (((j_lshr x1 40) &&& 15).toInt32) (((j_lshr x1 44) &&& 15).toInt32) (((j_lshr x1 32) &&& 255).toInt32) x1.toInt32).1) = 0 then ((g_MD_takes (fl_i (fl_i (fl_i M 25 ((((j_lshr x1 40) &&& 15).toInt32).toNatClampNeg) 1) 36 ((((j_lshr x1 40) &&& 15).toInt32).toNatClampNeg) 0) 35 ((((j_lshr x1 40) &&& 15).toInt32).toNatClampNeg) (12 * (M.1 0 1))) (((j_lshr x1 40) &&& 15).toInt32) (((j_lshr x1 44) &&& 15).toInt32) (((j_lshr x1 32) &&& 255).toInt32) x1.toInt32).2) else ((g_MD_whole ((g_MD_takes (fl_i (fl_i (fl_i M 25 ((((j_lshr x1 40) &&& 15).toInt32).toNatClampNeg) 1) 36 ((((j_lshr x1 40) &&& 15).toInt32).toNatClampNeg) 0) 35 ((((j_lshr x1 40) &&& 15).toInt32).toNatClampNeg) (12 * (M.1 0 1))) (((j_lshr x1 40) &&& 15).toInt32) (((j_lshr x1 44) &&& 15).toInt32) (((j_lshr x1 32) &&& 255).toInt32) x1.toInt32).2) (((j_lshr x1 40) &&& 15).toInt32) (((j_lshr x1 44) &&& 15).toInt32))))) else (if ((fl_i M 25 ((((j_lshr x1 40) &&& 15).toInt32).toNatClampNeg) 1).1 25 ((((j_lshr x1 40) &&& 15).toInt32).toNatClampNeg)) = 2 then ((fl_i (fl_i M 25 ((((j_lshr x1 40) &&& 15).toInt32).toNatClampNeg) 1) 36 ((((j_lshr x1 40) &&& 15).toInt32).toNatClampNeg) 0)) else ((fl_i (fl_i M 25 ((((j_lshr x1 40) &&& 15).toInt32).toNatClampNeg) 1) 36 ((((j_lshr x1 40) &&& 15).toInt32).toNatClampNeg) 0)))))) else (if ((fl_i M 25 ((((j_lshr x1 40) &&& 15).toInt32).toNatClampNeg) 1).1 25 ((((j_lshr x1 40) &&& 15).toInt32).toNatClampNeg)) = 1 then (if (((j_lshr x1 44) &&& 15).toInt32) = 4 then ((g_MD_finish (fl_i (fl_i (fl_i M 25 ((((j_lshr x1 40) &&& 15).toInt32).toNatClampNeg) 1) 36 ((((j_lshr x1 40) &&& 15).toInt32).toNatClampNeg) 1) 35 ((((j_lshr x1 40) &&& 15).toInt32).toNatClampNeg) (12 * (M.1 0 1))) (((j_lshr x1 40) &&& 15).toInt32) 5)) else (if 4 ≤ (((j_lshr x1 44) &&& 15).toInt32) then ((fl_i (fl_i (fl_i M 25 ((((j_lshr x1 40) &&& 15).toInt32).toNatClampNeg) 1) 36 ((((j_lshr x1 40) &&& 15).toInt32).toNatClampNeg) 1) 35 ((((j_lshr x1 40) &&& 15).toInt32).toNatClampNeg) (12 * (M.1 0 1)))) else (if ((g_MD_takes (fl_i (fl_i (fl_i M 25 ((((j_lshr x1 40) &&& 15).toInt32).toNatClampNeg) 1) 36 ((((j_lshr x1 40) &&& 15).toInt32).toNatClampNeg) 1) 35 ((((j_lshr x1 40) &&& 15).toInt32).toNatClampNeg) (12 * (M.1 0 1))) (((j_lshr x1 40) &&& 15).toInt32) (((j_lshr x1 44) &&& 15).toInt32) (((j_lshr x1 32) &&& 255).toInt32) x1.toInt32).1) = 0 then ((g_MD_takes (fl_i (fl_i (fl_i M 25 ((((j_lshr x1 40) &&& 15).toInt32).toNatClampNeg) 1) 36 ((((j_lshr x1 40) &&& 15).toInt32).toNatClampNeg) 1) 35 ((((j_lshr x1 40) &&& 15).toInt32).toNatClampNeg) (12 * (M.1 0 1))) (((j_lshr x1 40) &&& 15).toInt32) (((j_lshr x1 44) &&& 15).toInt32) (((j_lshr x1 32) &&& 255).toInt32) x1.toInt32).2) else ((g_MD_whole ((g_MD_takes (fl_i (fl_i (fl_i M 25 ((((j_lshr x1 40) &&& 15).toInt32).toNatClampNeg) 1) 36 ((((j_lshr x1 40) &&& 15).toInt32).toNatClampNeg) 1) 35 ((((j_lshr x1 40) &&& 15).toInt32).toNatClampNeg) (12 * (M.1 0 1))) (((j_lshr x1 40) &&& 15).toInt32) (((j_lshr x1 44) &&& 15).toInt32) (((j_lshr x1 32) &&& 255).toInt32) x1.toInt32).2) (((j_lshr x1 40) &&& 15).toInt32) (((j_lshr x1 44) &&& 15).toInt32)))))) else (if ((fl_i M 25 ((((j_lshr x1 40) &&& 15).toInt32).toNatClampNeg) 1).1 25 ((((j_lshr x1 40) &&& 15).toInt32).toNatClampNeg)) = 2 then ((fl_i (fl_i M 25 ((((j_lshr x1 40) &&& 15).toInt32).toNatClampNeg) 1) 36 ((((j_lshr x1 40) &&& 15).toInt32).toNatClampNeg) 1)) else ((fl_i (fl_i M 25 ((((j_lshr x1 40) &&& 15).toInt32).toNatClampNeg) 1) 36 ((((j_lshr x1 40) &&& 15).toInt32).toNatClampNeg) 1))))) else (if (M.1 36 ((((j_lshr x1 40) &&& 15).toInt32).toNatClampNeg)) = 0 then (if (((j_lshr x1 44) &&& 15).toInt32) = 3 then (if ((fl_i M 25 ((((j_lshr x1 40) &&& 15).toInt32).toNatClampNeg) (M.1 25 ((((j_lshr x1 40) &&& 15).toInt32).toNatClampNeg))).1 25 ((((j_lshr x1 40) &&& 15).toInt32).toNatClampNeg)) = 1 then (if ((g_MD_takes (fl_i (fl_i (fl_i M 25 ((((j_lshr x1 40) &&& 15).toInt32).toNatClampNeg) (M.1 25 ((((j_lshr x1 40) &&& 15).toInt32).toNatClampNeg))) 36 ((((j_lshr x1 40) &&& 15).toInt32).toNatClampNeg) 1) 35 ((((j_lshr x1 40) &&& 15).toInt32).toNatClampNeg) (12 * (M.1 0 1))) (((j_lshr x1 40) &&& 15).toInt32) (((j_lshr x1 44) &&& 15).toInt32) (((j_lshr x1 32) &&& 255).toInt32) x1.toInt32).1) = 0 then ((g_MD_takes (fl_i (fl_i (fl_i M 25 ((((j_lshr x1 40) &&& 15).toInt32).toNatClampNeg) (M.1 25 ((((j_lshr x1 40) &&& 15).toInt32).toNatClampNeg))) 36 ((((j_lshr x1 40) &&& 15).toInt32).toNatClampNeg) 1) 35 ((((j_lshr x1 40) &&& 15).toInt32).toNatClampNeg) (12 * (M.1 0 1))) (((j_lshr x1 40) &&& 15).toInt32) (((j_lshr x1 44) &&& 15).toInt32) (((j_lshr x1 32) &&& 255).toInt32) x1.toInt32).2) else ((g_MD_whole ((g_MD_takes (fl_i (fl_i (fl_i M 25 ((((j_lshr x1 40) &&& 15).toInt32).toNatClampNeg) (M.1 25 ((((j_lshr x1 40) &&& 15).toInt32).toNatClampNeg))) 36 ((((j_lshr x1 40) &&& 15).toInt32).toNatClampNeg) 1) 35 ((((j_lshr x1 40) &&& 15).toInt32).toNatClampNeg) (12 * (M.1 0 1))) (((j_lshr x1 40) &&& 15).toInt32) (((j_lshr x1 44) &&& 15).toInt32) (((j_lshr x1 32) &&& 255).toInt32) x1.toInt32).2) (((j_lshr x1 40) &&& 15).toInt32) (((j_lshr x1 44) &&& 15).toInt32)))) else (if ((fl_i M 25 ((((j_lshr x1 40) &&& 15).toInt32).toNatClampNeg) (M.1 25 ((((j_lshr x1 40) &&& 15).toInt32).toNatClampNeg))).1 25 ((((j_lshr x1 40) &&& 15).toInt32).toNatClampNeg)) = 2 then ((fl_i (fl_i M 25 ((((j_lshr x1 40) &&& 15).toInt32).toNatClampNeg) (M.1 25 ((((j_lshr x1 40) &&& 15).toInt32).toNatClampNeg))) 36 ((((j_lshr x1 40) &&& 15).toInt32).toNatClampNeg) 1)) else ((fl_i (fl_i M 25 ((((j_lshr x1 40) &&& 15).toInt32).toNatClampNeg) (M.1 25 ((((j_lshr x1 40) &&& 15).toInt32).toNatClampNeg))) 36 ((((j_lshr x1 40) &&& 15).toInt32).toNatClampNeg) 1)))) else (if (((j_lshr x1 44) &&& 15).toInt32) = 4 then (if ((fl_i M 25 ((((j_lshr x1 40) &&& 15).toInt32).toNatClampNeg) (M.1 25 ((((j_lshr x1 40) &&& 15).toInt32).toNatClampNeg))).1 25 ((((j_lshr x1 40) &&& 15).toInt32).toNatClampNeg)) = 1 then ((g_MD_finish (fl_i (fl_i (fl_i M 25 ((((j_lshr x1 40) &&& 15).toInt32).toNatClampNeg) (M.1 25 ((((j_lshr x1 40) &&& 15).toInt32).toNatClampNeg))) 36 ((((j_lshr x1 40) &&& 15).toInt32).toNatClampNeg) 1) 35 ((((j_lshr x1 40) &&& 15).toInt32).toNatClampNeg) (12 * (M.1 0 1))) (((j_lshr x1 40) &&& 15).toInt32) 5)) else (if ((fl_i M 25 ((((j_lshr x1 40) &&& 15).toInt32).toNatClampNeg) (M.1 25 ((((j_lshr x1 40) &&& 15).toInt32).toNatClampNeg))).1 25 ((((j_lshr x1 40) &&& 15).toInt32).toNatClampNeg)) = 2 then ((fl_i (fl_i M 25 ((((j_lshr x1 40) &&& 15).toInt32).toNatClampNeg) (M.1 25 ((((j_lshr x1 40) &&& 15).toInt32).toNatClampNeg))) 36 ((((j_lshr x1 40) &&& 15).toInt32).toNatClampNeg) 1)) else ((fl_i (fl_i M 25 ((((j_lshr x1 40) &&& 15).toInt32).toNatClampNeg) (M.1 25 ((((j_lshr x1 40) &&& 15).toInt32).toNatClampNeg))) 36 ((((j_lshr x1 40) &&& 15).toInt32).toNatClampNeg) 1)))) else (if ((fl_i M 25 ((((j_lshr x1 40) &&& 15).toInt32).toNatClampNeg) (M.1 25 ((((j_lshr x1 40) &&& 15).toInt32).toNatClampNeg))).1 25 ((((j_lshr x1 40) &&& 15).toInt32).toNatClampNeg)) = 1 then (if 4 ≤ (((j_lshr x1 44) &&& 15).toInt32) then ((fl_i (fl_i (fl_i M 25 ((((j_lshr x1 40) &&& 15).toInt32).toNatClampNeg) (M.1 25 ((((j_lshr x1 40) &&& 15).toInt32).toNatClampNeg))) 36 ((((j_lshr x1 40) &&& 15).toInt32).toNatClampNeg) 0) 35 ((((j_lshr x1 40) &&& 15).toInt32).toNatClampNeg) (12 * (M.1 0 1)))) else (if ((g_MD_takes (fl_i (fl_i (fl_i M 25 ((((j_lshr x1 40) &&& 15).toInt32).toNatClampNeg) (M.1 25 ((((j_lshr x1 40) &&& 15).toInt32).toNatClampNeg))) 36 ((((j_lshr x1 40) &&& 15).toInt32).toNatClampNeg) 0) 35 ((((j_lshr x1 40) &&& 15).toInt32).toNatClampNeg) (12 * (M.1 0 1))) (((j_lshr x1 40) &&& 15).toInt32) (((j_lshr x1 44) &&& 15).toInt32) (((j_lshr x1 32) &&& 255).toInt32) x1.toInt32).1) = 0 then ((g_MD_takes (fl_i (fl_i (fl_i M 25 ((((j_lshr x1 40) &&& 15).toInt32).toNatClampNeg) (M.1 25 ((((j_lshr x1 40) &&& 15).toInt32).toNatClampNeg))) 36 ((((j_lshr x1 40) &&& 15).toInt32).toNatClampNeg) 0) 35 ((((j_lshr x1 40) &&& 15).toInt32).toNatClampNeg) (12 * (M.1 0 1))) (((j_lshr x1 40) &&& 15).toInt32) (((j_lshr x1 44) &&& 15).toInt32) (((j_lshr x1 32) &&& 255).toInt32) x1.toInt32).2) else ((g_MD_whole ((g_MD_takes (fl_i (fl_i (fl_i M 25 ((((j_lshr x1 40) &&& 15).toInt32).toNatClampNeg) (M.1 25 ((((j_lshr x1 40) &&& 15).toInt32).toNatClampNeg))) 36 ((((j_lshr x1 40) &&& 15).toInt32).toNatClampNeg) 0) 35 ((((j_lshr x1 40) &&& 15).toInt32).toNatClampNeg) (12 * (M.1 0 1))) (((j_lshr x1 40) &&& 15).toInt32) (((j_lshr x1 44) &&& 15).toInt32) (((j_lshr x1 32) &&& 255).toInt32) x1.toInt32).2) (((j_lshr x1 40) &&& 15).toInt32) (((j_lshr x1 44) &&& 15).toInt32))))) else (if ((fl_i M 25 ((((j_lshr x1 40) &&& 15).toInt32).toNatClampNeg) (M.1 25 ((((j_lshr x1 40) &&& 15).toInt32).toNatClampNeg))).1 25 ((((j_lshr x1 40) &&& 15).toInt32).toNatClampNeg)) = 2 then ((fl_i (fl_i M 25 ((((j_lshr x1 40) &&& 15).toInt32).toNatClampNeg) (M.1 25 ((((j_lshr x1 40) &&& 15).toInt32).toNatClampNeg))) 36 ((((j_lshr x1 40) &&& 15).toInt32).toNatClampNeg) 0)) else ((fl_i (fl_i M 25 ((((j_lshr x1 40) &&& 15).toInt32).toNatClampNeg) (M.1 25 ((((j_lshr x1 40) &&& 15).toInt32).toNatClampNeg))) 36 ((((j_lshr x1 40) &&& 15).toInt32).toNatClampNeg) 0)))))) else (if ((fl_i M 25 ((((j_lshr x1 40) &&& 15).toInt32).toNatClampNeg) (M.1 25 ((((j_lshr x1 40) &&& 15).toInt32).toNatClampNeg))).1 25 ((((j_lshr x1 40) &&& 15).toInt32).toNatClampNeg)) = 1 then (if (((j_lshr x1 44) &&& 15).toInt32) = 4 then ((g_MD_finish (fl_i (fl_i (fl_i M 25 ((((j_lshr x1 40) &&& 15).toInt32).toNatClampNeg) (M.1 25 ((((j_lshr x1 40) &&& 15).toInt32).toNatClampNeg))) 36 ((((j_lshr x1 40) &&& 15).toInt32).toNatClampNeg) 1) 35 ((((j_lshr x1 40) &&& 15).toInt32).toNatClampNeg) (12 * (M.1 0 1))) (((j_lshr x1 40) &&& 15).toInt32) 5)) else (if 4 ≤ (((j_lshr x1 44) &&& 15).toInt32) then ((fl_i (fl_i (fl_i M 25 ((((j_lshr x1 40) &&& 15).toInt32).toNatClampNeg) (M.1 25 ((((j_lshr x1 40) &&& 15).toInt32).toNatClampNeg))) 36 ((((j_lshr x1 40) &&& 15).toInt32).toNatClampNeg) 1) 35 ((((j_lshr x1 40) &&& 15).toInt32).toNatClampNeg) (12 * (M.1 0 1)))) else (if ((g_MD_takes (fl_i (fl_i (fl_i M 25 ((((j_lshr x1 40) &&& 15).toInt32).toNatClampNeg) (M.1 25 ((((j_lshr x1 40) &&& 15).toInt32).toNatClampNeg))) 36 ((((j_lshr x1 40) &&& 15).toInt32).toNatClampNeg) 1) 35 ((((j_lshr x1 40) &&& 15).toInt32).toNatClampNeg) (12 * (M.1 0 1))) (((j_lshr x1 40) &&& 15).toInt32) (((j_lshr x1 44) &&& 15).toInt32) (((j_lshr x1 32) &&& 255).toInt32) x1.toInt32).1) = 0 then ((g_MD_takes (fl_i (fl_i (fl_i M 25 ((((j_lshr x1 40) &&& 15).toInt32).toNatClampNeg) (M.1 25 ((((j_lshr x1 40) &&& 15).toInt32).toNatClampNeg))) 36 ((((j_lshr x1 40) &&& 15).toInt32).toNatClampNeg) 1) 35 ((((j_lshr x1 40) &&& 15).toInt32).toNatClampNeg) (12 * (M.1 0 1))) (((j_lshr x1 40) &&& 15).toInt32) (((j_lshr x1 44) &&& 15).toInt32) (((j_lshr x1 32) &&& 255).toInt32) x1.toInt32).2) else ((g_MD_whole ((g_MD_takes (fl_i (fl_i (fl_i M 25 ((((j_lshr x1 40) &&& 15).toInt32).toNatClampNeg) (M.1 25 ((((j_lshr x1 40) &&& 15).toInt32).toNatClampNeg))) 36 ((((j_lshr x1 40) &&& 15).toInt32).toNatClampNeg) 1) 35 ((((j_lshr x1 40) &&& 15).toInt32).toNatClampNeg) (12 * (M.1 0 1))) (((j_lshr x1 40) &&& 15).toInt32) (((j_lshr x1 44) &&& 15).toInt32) (((j_lshr x1 32) &&& 255).toInt32) x1.toInt32).2) (((j_lshr x1 40) &&& 15).toInt32) (((j_lshr x1 44) &&& 15).toInt32)))))) else (if ((fl_i M 25 ((((j_lshr x1 40) &&& 15).toInt32).toNatClampNeg) (M.1 25 ((((j_lshr x1 40) &&& 15).toInt32).toNatClampNeg))).1 25 ((((j_lshr x1 40) &&& 15).toInt32).toNatClampNeg)) = 2 then ((fl_i (fl_i M 25 ((((j_lshr x1 40) &&& 15).toInt32).toNatClampNeg) (M.1 25 ((((j_lshr x1 40) &&& 15).toInt32).toNatClampNeg))) 36 ((((j_lshr x1 40) &&& 15).toInt32).toNatClampNeg) 1)) else ((fl_i (fl_i M 25 ((((j_lshr x1 40) &&& 15).toInt32).toNatClampNeg) (M.1 25 ((((j_lshr x1 40) &&& 15).toInt32).toNatClampNeg))) 36 ((((j_lshr x1 40) &&& 15).toInt32).toNatClampNeg) 1))))))))
set_option maxHeartbeats 400000 in
set_option maxRecDepth 100000 in
theorem c_MD_craftPdu (l : Launch) {D : va_G} {ad : Nat → Nat} {cA : Nat → ClassId} (hi : fl_inj ad 41) (M : fl_M) (x1 : Int64) (hY : YI M) (hYf : ∀ (N : fl_M) (c j : Nat) (v : Int32), c ≠ 27 → c ≠ 30 → c ≠ 31 → YI N → YI (fl_i N c j v)) (hYt : ∀ (N : fl_M) (t k p w : Int32), vp_in t 16 → ¬ p < 0 → YI N → YI (g_MD_takes N t k p w).2) : Met l y_MD_craftPdu w_MD_craftPdu ({ frames := 2, cells := 0, slots := 0, locals := 48 } : Room) (va_Pc [.ref (ad 0), .long x1] (fl_B D cls (yt cA) ([] : fl_L) ([] : fl_FN) ([] : fl_MN) ad (yc ad cA) 41 M)) (va_Qv (fun M' => M' = (g_MD_craftPdu M x1)) (fl_E D cls ad (yc ad cA) 41) (fl_A ad 41)) 0 0 (fl_A ad 41) := by
  refine Met.ofW (cc := b_MD_craftPdu) (maxL := 7) (ret := none) (by decide) rfl ?_
  intro p e s m args below meth c s₁ B hml hv
  obtain ⟨rfl, hP, hK, hSt, hN⟩ := hv
  have hx := B.exec
  have hb := B.bytes
  have hr := B.returns
  have hts := atoms_spec (ws := w_MD_craftPdu) B.pre
  have hown : s.vm.findClass "FarLinkModel" = some m.cls := findClass_of_methodNamed B.named
  have hlocks := B.notSynchronized
  have hS : va_S (fl_A ad 41) s.heap s.heap [] := va_S.rf
  have hl := lv_entry ([.ref (ad 0), .long x1]) (n := 7) (Nat.le_of_ble_eq_true rfl)
  rw [lg_entry_eq]
  generalize (lg_sl ([.ref (ad 0), .long x1]) ++ List.replicate (7 - (lg_sl ([.ref (ad 0), .long x1])).length) Slot.unset).toArray = ls at hl ⊢
  have hl : lv_has ls 7 [(0, .ref (ad 0)), (1, .long x1)] := hl
  have hG := g_MD_craftPdu.eq_1 M x1
  refine lv_lload_n hx hb d_MD_craftPdu_0 rfl (lv_at hl 1 rfl) ?_
  refine lv_bipush (v := 44) hx hb d_MD_craftPdu_1 (by decide) ?_
  refine lv_lshr (v := j_lshr x1 44) hx hb d_MD_craftPdu_3 rfl ?_
  refine lv_ldc2 (v := 15) hx hb hown (hts _ (List.mem_cons_of_mem _ tw_780)) d_MD_craftPdu_4 ?_
  refine lv_land hx hb d_MD_craftPdu_7 ?_
  refine lv_l2i (v := ((j_lshr x1 44) &&& 15).toInt32) hx hb d_MD_craftPdu_8 rfl ?_
  refine lv_istore_n (lv' := [(3, .int (((j_lshr x1 44) &&& 15).toInt32)), (0, .ref (ad 0)), (1, .long x1)]) hx hb d_MD_craftPdu_9 rfl hl (by decide) rfl (fun ls hl => ?_)
  refine lv_lload_n hx hb d_MD_craftPdu_10 rfl (lv_at hl 2 rfl) ?_
  refine lv_bipush (v := 40) hx hb d_MD_craftPdu_11 (by decide) ?_
  refine lv_lshr (v := j_lshr x1 40) hx hb d_MD_craftPdu_13 rfl ?_
  refine lv_ldc2 (v := 15) hx hb hown (hts _ (List.mem_cons_of_mem _ tw_780)) d_MD_craftPdu_14 ?_
  refine lv_land hx hb d_MD_craftPdu_17 ?_
  refine lv_l2i (v := ((j_lshr x1 40) &&& 15).toInt32) hx hb d_MD_craftPdu_18 rfl ?_
  refine lv_istore (lv' := [(4, .int (((j_lshr x1 40) &&& 15).toInt32)), (3, .int (((j_lshr x1 44) &&& 15).toInt32)), (0, .ref (ad 0)), (1, .long x1)]) hx hb d_MD_craftPdu_19 hl (by decide) rfl (fun ls hl => ?_)
  refine lv_lload_n hx hb d_MD_craftPdu_21 rfl (lv_at hl 3 rfl) ?_
  refine lv_bipush (v := 32) hx hb d_MD_craftPdu_22 (by decide) ?_
  refine lv_lshr (v := j_lshr x1 32) hx hb d_MD_craftPdu_24 rfl ?_
  refine lv_ldc2 (v := 255) hx hb hown (hts _ (List.mem_cons_of_mem _ tw_1044)) d_MD_craftPdu_25 ?_
  refine lv_land hx hb d_MD_craftPdu_28 ?_
  refine lv_l2i (v := ((j_lshr x1 32) &&& 255).toInt32) hx hb d_MD_craftPdu_29 rfl ?_
  refine lv_istore (lv' := [(5, .int (((j_lshr x1 32) &&& 255).toInt32)), (4, .int (((j_lshr x1 40) &&& 15).toInt32)), (3, .int (((j_lshr x1 44) &&& 15).toInt32)), (0, .ref (ad 0)), (1, .long x1)]) hx hb d_MD_craftPdu_30 hl (by decide) rfl (fun ls hl => ?_)
  refine lv_lload_n hx hb d_MD_craftPdu_32 rfl (lv_at hl 4 rfl) ?_
  refine lv_l2i (v := x1.toInt32) hx hb d_MD_craftPdu_33 rfl ?_
  refine lv_istore (lv' := [(6, .int x1.toInt32), (5, .int (((j_lshr x1 32) &&& 255).toInt32)), (4, .int (((j_lshr x1 40) &&& 15).toInt32)), (3, .int (((j_lshr x1 44) &&& 15).toInt32)), (0, .ref (ad 0)), (1, .long x1)]) hx hb d_MD_craftPdu_34 hl (by decide) rfl (fun ls hl => ?_)
  refine lv_iload_n hx hb d_MD_craftPdu_36 rfl (lv_at hl 3 rfl) ?_
  refine lv_iconst (v := 1) hx hb d_MD_craftPdu_37 (by decide) ?_
  refine lv_icmp_lt (tgt := 61) hx hb d_MD_craftPdu_38 (by decide) (fun h_1 => ?_) (fun h_1 => ?_)
  ·
    have hG := hG.trans (if_pos h_1)
    exact fl_vret hx hb hr hlocks hP hS (by rw [hG]) d_MD_craftPdu_61
  ·
    have hG := hG.trans (if_neg h_1)
    refine lv_iload_n hx hb d_MD_craftPdu_41 rfl (lv_at hl 3 rfl) ?_
    refine lv_iconst (v := 5) hx hb d_MD_craftPdu_42 (by decide) ?_
    refine lv_icmp_gt (tgt := 61) hx hb d_MD_craftPdu_43 (by decide) (fun h_2 => ?_) (fun h_2 => ?_)
    ·
      have hG := hG.trans (if_pos h_2)
      exact fl_vret hx hb hr hlocks hP hS (by rw [hG]) d_MD_craftPdu_61
    ·
      have hG := hG.trans (if_neg h_2)
      refine lv_iload_n hx hb d_MD_craftPdu_46 rfl (lv_at hl 3 rfl) ?_
      refine lv_iconst (v := 5) hx hb d_MD_craftPdu_47 (by decide) ?_
      refine lv_icmp_ne (tgt := 62) hx hb d_MD_craftPdu_48 (by decide) (fun h_3 => ?_) (fun h_3 => ?_)
      ·
        have hG := hG.trans (if_neg h_3)
        refine lv_aload_n hx hb d_MD_craftPdu_62 rfl (lv_at hl 4 rfl) ?_
        refine gg_MD (k := 41) (v := .ref (ad 25)) hx hb hts hown hK hP  (hts _ (List.mem_cons_of_mem _ tw_822)) (by decide) rfl rfl d_MD_craftPdu_63 ?_
        refine lv_iload hx hb d_MD_craftPdu_66 (lv_at hl 2 rfl) ?_
        refine lv_aload_n hx hb d_MD_craftPdu_68 rfl (lv_at hl 4 rfl) ?_
        refine gg_MD (k := 41) (v := .ref (ad 25)) hx hb hts hown hK hP  (hts _ (List.mem_cons_of_mem _ tw_822)) (by decide) rfl rfl d_MD_craftPdu_69 ?_
        refine lv_iload hx hb d_MD_craftPdu_72 (lv_at hl 2 rfl) ?_
        refine ag_Astage (v := .int (M.1 25 ((((j_lshr x1 40) &&& 15).toInt32).toNatClampNeg))) hx hb hK hP  (in_land _) rfl d_MD_craftPdu_74 ?_
        refine lv_if_ne (tgt := 82) hx hb d_MD_craftPdu_75 (by decide) (fun h_4 => ?_) (fun h_4 => ?_)
        ·
          have hG := hG.trans (if_neg h_4)
          refine lv_aload_n hx hb d_MD_craftPdu_82 rfl (lv_at hl 4 rfl) ?_
          refine gg_MD (k := 41) (v := .ref (ad 25)) hx hb hts hown hK hP  (hts _ (List.mem_cons_of_mem _ tw_822)) (by decide) rfl rfl d_MD_craftPdu_83 ?_
          refine lv_iload hx hb d_MD_craftPdu_86 (lv_at hl 2 rfl) ?_
          refine ag_Astage (v := .int (M.1 25 ((((j_lshr x1 40) &&& 15).toInt32).toNatClampNeg))) hx hb hK hP  (in_land _) rfl d_MD_craftPdu_88 ?_
          refine sg_Astage hx hb hK hi hP hS  (in_land _) d_MD_craftPdu_89 (fun H locs hP hS => ?_)
          refine lv_aload_n hx hb d_MD_craftPdu_90 rfl (lv_at hl 4 rfl) ?_
          refine gg_MD (k := 52) (v := .ref (ad 36)) hx hb hts hown hK hP  (hts _ (List.mem_cons_of_mem _ tw_833)) (by decide) rfl rfl d_MD_craftPdu_91 ?_
          refine lv_iload hx hb d_MD_craftPdu_94 (lv_at hl 2 rfl) ?_
          refine lv_aload_n hx hb d_MD_craftPdu_96 rfl (lv_at hl 4 rfl) ?_
          refine gg_MD (k := 52) (v := .ref (ad 36)) hx hb hts hown hK hP  (hts _ (List.mem_cons_of_mem _ tw_833)) (by decide) rfl rfl d_MD_craftPdu_97 ?_
          refine lv_iload hx hb d_MD_craftPdu_100 (lv_at hl 2 rfl) ?_
          refine ag_AoweGot (v := .int (M.1 36 ((((j_lshr x1 40) &&& 15).toInt32).toNatClampNeg))) hx hb hK hP  (in_land _) rfl d_MD_craftPdu_102 ?_
          refine lv_if_ne (tgt := 116) hx hb d_MD_craftPdu_103 (by decide) (fun h_5 => ?_) (fun h_5 => ?_)
          ·
            have hG := hG.trans (if_neg h_5)
            refine lv_iconst (v := 1) hx hb d_MD_craftPdu_116 (by decide) ?_
            refine lv_goto (tgt := 121) hx hb d_MD_craftPdu_117 (by decide) ?_
            refine sg_AoweGot hx hb hK hi hP hS  (rfl) (in_land _) d_MD_craftPdu_121 (fun H locs hP hS => ?_)
            refine lv_aload_n hx hb d_MD_craftPdu_122 rfl (lv_at hl 4 rfl) ?_
            refine gg_MD (k := 41) (v := .ref (ad 25)) hx hb hts hown hK hP  (hts _ (List.mem_cons_of_mem _ tw_822)) (by decide) rfl rfl d_MD_craftPdu_123 ?_
            refine lv_iload hx hb d_MD_craftPdu_126 (lv_at hl 2 rfl) ?_
            refine ag_Astage (v := .int ((fl_i M 25 ((((j_lshr x1 40) &&& 15).toInt32).toNatClampNeg) (M.1 25 ((((j_lshr x1 40) &&& 15).toInt32).toNatClampNeg))).1 25 ((((j_lshr x1 40) &&& 15).toInt32).toNatClampNeg))) hx hb hK hP  (in_land _) rfl d_MD_craftPdu_128 ?_
            refine lv_iconst (v := 1) hx hb d_MD_craftPdu_129 (by decide) ?_
            refine lv_icmp_ne (tgt := 191) hx hb d_MD_craftPdu_130 (by decide) (fun h_6 => ?_) (fun h_6 => ?_)
            ·
              have hG := hG.trans (if_neg h_6)
              refine lv_aload_n hx hb d_MD_craftPdu_191 rfl (lv_at hl 4 rfl) ?_
              refine gg_MD (k := 41) (v := .ref (ad 25)) hx hb hts hown hK hP  (hts _ (List.mem_cons_of_mem _ tw_822)) (by decide) rfl rfl d_MD_craftPdu_192 ?_
              refine lv_iload hx hb d_MD_craftPdu_195 (lv_at hl 2 rfl) ?_
              refine ag_Astage (v := .int ((fl_i M 25 ((((j_lshr x1 40) &&& 15).toInt32).toNatClampNeg) (M.1 25 ((((j_lshr x1 40) &&& 15).toInt32).toNatClampNeg))).1 25 ((((j_lshr x1 40) &&& 15).toInt32).toNatClampNeg))) hx hb hK hP  (in_land _) rfl d_MD_craftPdu_197 ?_
              refine lv_iconst (v := 2) hx hb d_MD_craftPdu_198 (by decide) ?_
              refine lv_icmp_ne (tgt := 213) hx hb d_MD_craftPdu_199 (by decide) (fun h_7 => ?_) (fun h_7 => ?_)
              ·
                have hG := hG.trans (if_neg h_7)
                exact fl_vret hx hb hr hlocks hP hS (by rw [hG]) d_MD_craftPdu_213
              ·
                have hG := hG.trans (if_pos h_7)
                refine lv_iload_n hx hb d_MD_craftPdu_202 rfl (lv_at hl 3 rfl) ?_
                refine lv_iconst (v := 5) hx hb d_MD_craftPdu_203 (by decide) ?_
                refine lv_icmp_ne (tgt := 213) hx hb d_MD_craftPdu_204 (by decide) (fun _ => ?_) (fun h_8 => absurd h_8 (h_3))
                exact fl_vret hx hb hr hlocks hP hS (by rw [hG]) d_MD_craftPdu_213
            ·
              have hG := hG.trans (if_pos h_6)
              refine lv_aload_n hx hb d_MD_craftPdu_133 rfl (lv_at hl 4 rfl) ?_
              refine gg_MD (k := 51) (v := .ref (ad 35)) hx hb hts hown hK hP  (hts _ (List.mem_cons_of_mem _ tw_832)) (by decide) rfl rfl d_MD_craftPdu_134 ?_
              refine lv_iload hx hb d_MD_craftPdu_137 (lv_at hl 2 rfl) ?_
              refine lv_bipush (v := 12) hx hb d_MD_craftPdu_139 (by decide) ?_
              refine lv_aload_n hx hb d_MD_craftPdu_141 rfl (lv_at hl 4 rfl) ?_
              refine gg_MD (k := 1) (v := .int (M.1 0 1)) hx hb hts hown hK hP  (hts _ (List.mem_cons_of_mem _ tw_782)) (by decide) rfl rfl d_MD_craftPdu_142 ?_
              refine lv_imul hx hb d_MD_craftPdu_145 ?_
              refine sg_AcraftIdle hx hb hK hi hP hS  (in_land _) d_MD_craftPdu_146 (fun H locs hP hS => ?_)
              refine lv_iload_n hx hb d_MD_craftPdu_147 rfl (lv_at hl 3 rfl) ?_
              refine lv_iconst (v := 4) hx hb d_MD_craftPdu_148 (by decide) ?_
              refine lv_icmp_ne (tgt := 162) hx hb d_MD_craftPdu_149 (by decide) (fun h_9 => ?_) (fun h_9 => ?_)
              ·
                have hG := hG.trans (if_neg h_9)
                refine lv_iload_n hx hb d_MD_craftPdu_162 rfl (lv_at hl 3 rfl) ?_
                refine lv_iconst (v := 4) hx hb d_MD_craftPdu_163 (by decide) ?_
                refine lv_icmp_ge (tgt := 213) hx hb d_MD_craftPdu_164 (by decide) (fun h_10 => ?_) (fun h_10 => ?_)
                ·
                  have hG := hG.trans (if_pos h_10)
                  exact fl_vret hx hb hr hlocks hP hS (by rw [hG]) d_MD_craftPdu_213
                ·
                  have hG := hG.trans (if_neg h_10)
                  refine lv_aload_n hx hb d_MD_craftPdu_167 rfl (lv_at hl 4 rfl) ?_
                  refine lv_iload hx hb d_MD_craftPdu_168 (lv_at hl 2 rfl) ?_
                  refine lv_iload_n hx hb d_MD_craftPdu_170 rfl (lv_at hl 3 rfl) ?_
                  refine lv_iload hx hb d_MD_craftPdu_171 (lv_at hl 1 rfl) ?_
                  refine lv_iload hx hb d_MD_craftPdu_173 (lv_at hl 0 rfl) ?_
                  refine fl_calli (va_runV (As := [.int (((j_lshr x1 40) &&& 15).toInt32), .int (((j_lshr x1 44) &&& 15).toInt32), .int (((j_lshr x1 32) &&& 255).toInt32), .int x1.toInt32]) (rest := []) ⟨hx, hb, hml, hown, hts⟩ (c_MD_takes l hi (fl_i (fl_i (fl_i M 25 ((((j_lshr x1 40) &&& 15).toInt32).toNatClampNeg) (M.1 25 ((((j_lshr x1 40) &&& 15).toInt32).toNatClampNeg))) 36 ((((j_lshr x1 40) &&& 15).toInt32).toNatClampNeg) 1) 35 ((((j_lshr x1 40) &&& 15).toInt32).toNatClampNeg) (12 * (M.1 0 1))) (((j_lshr x1 40) &&& 15).toInt32) (((j_lshr x1 44) &&& 15).toInt32) (((j_lshr x1 32) &&& 255).toInt32) x1.toInt32 (in_land _) (nn_land _)) (kv_MD_takes hts (hts _ (List.mem_cons_of_mem _ tw_1049)) ⟨Nat.le_of_ble_eq_true rfl, Nat.le_of_ble_eq_true rfl⟩) (fl_preV hK hSt hN hS hP (by decide) (kg_MD) rfl) rfl rfl hl.1 rfl (lv_room (Nat.le_of_ble_eq_true rfl)) d_MD_craftPdu_175 ⟨Nat.zero_le _, Nat.zero_le _⟩) hS (fun H locs hP hS => ?_)
                  refine lv_if_eq (tgt := 213) hx hb d_MD_craftPdu_178 (by decide) (fun h_11 => ?_) (fun h_11 => ?_)
                  ·
                    have hG := hG.trans (if_pos h_11)
                    exact fl_vret hx hb hr hlocks hP hS (by rw [hG]) d_MD_craftPdu_213
                  ·
                    have hG := hG.trans (if_neg h_11)
                    refine lv_aload_n hx hb d_MD_craftPdu_181 rfl (lv_at hl 4 rfl) ?_
                    refine lv_iload hx hb d_MD_craftPdu_182 (lv_at hl 2 rfl) ?_
                    refine lv_iload_n hx hb d_MD_craftPdu_184 rfl (lv_at hl 3 rfl) ?_
                    refine fl_callv (va_runV (As := [.int (((j_lshr x1 40) &&& 15).toInt32), .int (((j_lshr x1 44) &&& 15).toInt32)]) (rest := []) ⟨hx, hb, hml, hown, hts⟩ (c_MD_whole l hi ((g_MD_takes (fl_i (fl_i (fl_i M 25 ((((j_lshr x1 40) &&& 15).toInt32).toNatClampNeg) (M.1 25 ((((j_lshr x1 40) &&& 15).toInt32).toNatClampNeg))) 36 ((((j_lshr x1 40) &&& 15).toInt32).toNatClampNeg) 1) 35 ((((j_lshr x1 40) &&& 15).toInt32).toNatClampNeg) (12 * (M.1 0 1))) (((j_lshr x1 40) &&& 15).toInt32) (((j_lshr x1 44) &&& 15).toInt32) (((j_lshr x1 32) &&& 255).toInt32) x1.toInt32).2) (((j_lshr x1 40) &&& 15).toInt32) (((j_lshr x1 44) &&& 15).toInt32) (in_land _) (hYt _ _ _ _ _ (in_land _) (nn_land _) (by repeat (first | exact hY | refine hYf _ _ _ _ (by decide) (by decide) (by decide) ?_)))) (kv_MD_whole hts (hts _ (List.mem_cons_of_mem _ tw_1053)) ⟨Nat.le_of_ble_eq_true rfl, Nat.le_of_ble_eq_true rfl⟩) (fl_preV hK hSt hN hS hP (by decide) (kg_MD) rfl) rfl rfl hl.1 rfl (lv_room (Nat.le_of_ble_eq_true rfl)) d_MD_craftPdu_185 ⟨Nat.zero_le _, Nat.zero_le _⟩) hS (fun H locs hP hS => ?_)
                    refine lv_goto (tgt := 213) hx hb d_MD_craftPdu_188 (by decide) ?_
                    exact fl_vret hx hb hr hlocks hP hS (by rw [hG]) d_MD_craftPdu_213
              ·
                have hG := hG.trans (if_pos h_9)
                refine lv_aload_n hx hb d_MD_craftPdu_152 rfl (lv_at hl 4 rfl) ?_
                refine lv_iload hx hb d_MD_craftPdu_153 (lv_at hl 2 rfl) ?_
                refine lv_iconst (v := 5) hx hb d_MD_craftPdu_155 (by decide) ?_
                refine fl_callv (va_runV (As := [.int (((j_lshr x1 40) &&& 15).toInt32), .int 5]) (rest := []) ⟨hx, hb, hml, hown, hts⟩ (c_MD_finish l hi (fl_i (fl_i (fl_i M 25 ((((j_lshr x1 40) &&& 15).toInt32).toNatClampNeg) (M.1 25 ((((j_lshr x1 40) &&& 15).toInt32).toNatClampNeg))) 36 ((((j_lshr x1 40) &&& 15).toInt32).toNatClampNeg) 1) 35 ((((j_lshr x1 40) &&& 15).toInt32).toNatClampNeg) (12 * (M.1 0 1))) (((j_lshr x1 40) &&& 15).toInt32) 5 (in_land _)) (kv_MD_finish hts (hts _ (List.mem_cons_of_mem _ tw_1045)) ⟨Nat.le_of_ble_eq_true rfl, Nat.le_of_ble_eq_true rfl⟩) (fl_preV hK hSt hN hS hP (by decide) (kg_MD) rfl) rfl rfl hl.1 rfl (lv_room (Nat.le_of_ble_eq_true rfl)) d_MD_craftPdu_156 ⟨Nat.zero_le _, Nat.zero_le _⟩) hS (fun H locs hP hS => ?_)
                refine lv_goto (tgt := 213) hx hb d_MD_craftPdu_159 (by decide) ?_
                exact fl_vret hx hb hr hlocks hP hS (by rw [hG]) d_MD_craftPdu_213
          ·
            have hG := hG.trans (if_pos h_5)
            refine lv_iload_n hx hb d_MD_craftPdu_106 rfl (lv_at hl 3 rfl) ?_
            refine lv_iconst (v := 3) hx hb d_MD_craftPdu_107 (by decide) ?_
            refine lv_icmp_eq (tgt := 116) hx hb d_MD_craftPdu_108 (by decide) (fun h_12 => ?_) (fun h_12 => ?_)
            ·
              have hG := hG.trans (if_pos h_12)
              refine lv_iconst (v := 1) hx hb d_MD_craftPdu_116 (by decide) ?_
              refine lv_goto (tgt := 121) hx hb d_MD_craftPdu_117 (by decide) ?_
              refine sg_AoweGot hx hb hK hi hP hS  (rfl) (in_land _) d_MD_craftPdu_121 (fun H locs hP hS => ?_)
              refine lv_aload_n hx hb d_MD_craftPdu_122 rfl (lv_at hl 4 rfl) ?_
              refine gg_MD (k := 41) (v := .ref (ad 25)) hx hb hts hown hK hP  (hts _ (List.mem_cons_of_mem _ tw_822)) (by decide) rfl rfl d_MD_craftPdu_123 ?_
              refine lv_iload hx hb d_MD_craftPdu_126 (lv_at hl 2 rfl) ?_
              refine ag_Astage (v := .int ((fl_i M 25 ((((j_lshr x1 40) &&& 15).toInt32).toNatClampNeg) (M.1 25 ((((j_lshr x1 40) &&& 15).toInt32).toNatClampNeg))).1 25 ((((j_lshr x1 40) &&& 15).toInt32).toNatClampNeg))) hx hb hK hP  (in_land _) rfl d_MD_craftPdu_128 ?_
              refine lv_iconst (v := 1) hx hb d_MD_craftPdu_129 (by decide) ?_
              refine lv_icmp_ne (tgt := 191) hx hb d_MD_craftPdu_130 (by decide) (fun h_13 => ?_) (fun h_13 => ?_)
              ·
                have hG := hG.trans (if_neg h_13)
                refine lv_aload_n hx hb d_MD_craftPdu_191 rfl (lv_at hl 4 rfl) ?_
                refine gg_MD (k := 41) (v := .ref (ad 25)) hx hb hts hown hK hP  (hts _ (List.mem_cons_of_mem _ tw_822)) (by decide) rfl rfl d_MD_craftPdu_192 ?_
                refine lv_iload hx hb d_MD_craftPdu_195 (lv_at hl 2 rfl) ?_
                refine ag_Astage (v := .int ((fl_i M 25 ((((j_lshr x1 40) &&& 15).toInt32).toNatClampNeg) (M.1 25 ((((j_lshr x1 40) &&& 15).toInt32).toNatClampNeg))).1 25 ((((j_lshr x1 40) &&& 15).toInt32).toNatClampNeg))) hx hb hK hP  (in_land _) rfl d_MD_craftPdu_197 ?_
                refine lv_iconst (v := 2) hx hb d_MD_craftPdu_198 (by decide) ?_
                refine lv_icmp_ne (tgt := 213) hx hb d_MD_craftPdu_199 (by decide) (fun h_14 => ?_) (fun h_14 => ?_)
                ·
                  have hG := hG.trans (if_neg h_14)
                  exact fl_vret hx hb hr hlocks hP hS (by rw [hG]) d_MD_craftPdu_213
                ·
                  have hG := hG.trans (if_pos h_14)
                  refine lv_iload_n hx hb d_MD_craftPdu_202 rfl (lv_at hl 3 rfl) ?_
                  refine lv_iconst (v := 5) hx hb d_MD_craftPdu_203 (by decide) ?_
                  refine lv_icmp_ne (tgt := 213) hx hb d_MD_craftPdu_204 (by decide) (fun _ => ?_) (fun h_15 => absurd h_15 (h_3))
                  exact fl_vret hx hb hr hlocks hP hS (by rw [hG]) d_MD_craftPdu_213
              ·
                have hG := hG.trans (if_pos h_13)
                refine lv_aload_n hx hb d_MD_craftPdu_133 rfl (lv_at hl 4 rfl) ?_
                refine gg_MD (k := 51) (v := .ref (ad 35)) hx hb hts hown hK hP  (hts _ (List.mem_cons_of_mem _ tw_832)) (by decide) rfl rfl d_MD_craftPdu_134 ?_
                refine lv_iload hx hb d_MD_craftPdu_137 (lv_at hl 2 rfl) ?_
                refine lv_bipush (v := 12) hx hb d_MD_craftPdu_139 (by decide) ?_
                refine lv_aload_n hx hb d_MD_craftPdu_141 rfl (lv_at hl 4 rfl) ?_
                refine gg_MD (k := 1) (v := .int (M.1 0 1)) hx hb hts hown hK hP  (hts _ (List.mem_cons_of_mem _ tw_782)) (by decide) rfl rfl d_MD_craftPdu_142 ?_
                refine lv_imul hx hb d_MD_craftPdu_145 ?_
                refine sg_AcraftIdle hx hb hK hi hP hS  (in_land _) d_MD_craftPdu_146 (fun H locs hP hS => ?_)
                refine lv_iload_n hx hb d_MD_craftPdu_147 rfl (lv_at hl 3 rfl) ?_
                refine lv_iconst (v := 4) hx hb d_MD_craftPdu_148 (by decide) ?_
                refine lv_icmp_ne (tgt := 162) hx hb d_MD_craftPdu_149 (by decide) (fun _ => ?_) (fun h_16 => absurd h_16 (by rw [h_12]; decide))
                refine lv_iload_n hx hb d_MD_craftPdu_162 rfl (lv_at hl 3 rfl) ?_
                refine lv_iconst (v := 4) hx hb d_MD_craftPdu_163 (by decide) ?_
                refine lv_icmp_ge (tgt := 213) hx hb d_MD_craftPdu_164 (by decide) (fun h_17 => absurd h_17 (by rw [h_12]; decide)) (fun _ => ?_)
                refine lv_aload_n hx hb d_MD_craftPdu_167 rfl (lv_at hl 4 rfl) ?_
                refine lv_iload hx hb d_MD_craftPdu_168 (lv_at hl 2 rfl) ?_
                refine lv_iload_n hx hb d_MD_craftPdu_170 rfl (lv_at hl 3 rfl) ?_
                refine lv_iload hx hb d_MD_craftPdu_171 (lv_at hl 1 rfl) ?_
                refine lv_iload hx hb d_MD_craftPdu_173 (lv_at hl 0 rfl) ?_
                refine fl_calli (va_runV (As := [.int (((j_lshr x1 40) &&& 15).toInt32), .int (((j_lshr x1 44) &&& 15).toInt32), .int (((j_lshr x1 32) &&& 255).toInt32), .int x1.toInt32]) (rest := []) ⟨hx, hb, hml, hown, hts⟩ (c_MD_takes l hi (fl_i (fl_i (fl_i M 25 ((((j_lshr x1 40) &&& 15).toInt32).toNatClampNeg) (M.1 25 ((((j_lshr x1 40) &&& 15).toInt32).toNatClampNeg))) 36 ((((j_lshr x1 40) &&& 15).toInt32).toNatClampNeg) 1) 35 ((((j_lshr x1 40) &&& 15).toInt32).toNatClampNeg) (12 * (M.1 0 1))) (((j_lshr x1 40) &&& 15).toInt32) (((j_lshr x1 44) &&& 15).toInt32) (((j_lshr x1 32) &&& 255).toInt32) x1.toInt32 (in_land _) (nn_land _)) (kv_MD_takes hts (hts _ (List.mem_cons_of_mem _ tw_1049)) ⟨Nat.le_of_ble_eq_true rfl, Nat.le_of_ble_eq_true rfl⟩) (fl_preV hK hSt hN hS hP (by decide) (kg_MD) rfl) rfl rfl hl.1 rfl (lv_room (Nat.le_of_ble_eq_true rfl)) d_MD_craftPdu_175 ⟨Nat.zero_le _, Nat.zero_le _⟩) hS (fun H locs hP hS => ?_)
                refine lv_if_eq (tgt := 213) hx hb d_MD_craftPdu_178 (by decide) (fun h_18 => ?_) (fun h_18 => ?_)
                ·
                  have hG := hG.trans (if_pos h_18)
                  exact fl_vret hx hb hr hlocks hP hS (by rw [hG]) d_MD_craftPdu_213
                ·
                  have hG := hG.trans (if_neg h_18)
                  refine lv_aload_n hx hb d_MD_craftPdu_181 rfl (lv_at hl 4 rfl) ?_
                  refine lv_iload hx hb d_MD_craftPdu_182 (lv_at hl 2 rfl) ?_
                  refine lv_iload_n hx hb d_MD_craftPdu_184 rfl (lv_at hl 3 rfl) ?_
                  refine fl_callv (va_runV (As := [.int (((j_lshr x1 40) &&& 15).toInt32), .int (((j_lshr x1 44) &&& 15).toInt32)]) (rest := []) ⟨hx, hb, hml, hown, hts⟩ (c_MD_whole l hi ((g_MD_takes (fl_i (fl_i (fl_i M 25 ((((j_lshr x1 40) &&& 15).toInt32).toNatClampNeg) (M.1 25 ((((j_lshr x1 40) &&& 15).toInt32).toNatClampNeg))) 36 ((((j_lshr x1 40) &&& 15).toInt32).toNatClampNeg) 1) 35 ((((j_lshr x1 40) &&& 15).toInt32).toNatClampNeg) (12 * (M.1 0 1))) (((j_lshr x1 40) &&& 15).toInt32) (((j_lshr x1 44) &&& 15).toInt32) (((j_lshr x1 32) &&& 255).toInt32) x1.toInt32).2) (((j_lshr x1 40) &&& 15).toInt32) (((j_lshr x1 44) &&& 15).toInt32) (in_land _) (hYt _ _ _ _ _ (in_land _) (nn_land _) (by repeat (first | exact hY | refine hYf _ _ _ _ (by decide) (by decide) (by decide) ?_)))) (kv_MD_whole hts (hts _ (List.mem_cons_of_mem _ tw_1053)) ⟨Nat.le_of_ble_eq_true rfl, Nat.le_of_ble_eq_true rfl⟩) (fl_preV hK hSt hN hS hP (by decide) (kg_MD) rfl) rfl rfl hl.1 rfl (lv_room (Nat.le_of_ble_eq_true rfl)) d_MD_craftPdu_185 ⟨Nat.zero_le _, Nat.zero_le _⟩) hS (fun H locs hP hS => ?_)
                  refine lv_goto (tgt := 213) hx hb d_MD_craftPdu_188 (by decide) ?_
                  exact fl_vret hx hb hr hlocks hP hS (by rw [hG]) d_MD_craftPdu_213
            ·
              have hG := hG.trans (if_neg h_12)
              refine lv_iload_n hx hb d_MD_craftPdu_111 rfl (lv_at hl 3 rfl) ?_
              refine lv_iconst (v := 4) hx hb d_MD_craftPdu_112 (by decide) ?_
              refine lv_icmp_ne (tgt := 120) hx hb d_MD_craftPdu_113 (by decide) (fun h_19 => ?_) (fun h_19 => ?_)
              ·
                have hG := hG.trans (if_neg h_19)
                refine lv_iconst (v := 0) hx hb d_MD_craftPdu_120 (by decide) ?_
                refine sg_AoweGot hx hb hK hi hP hS  (rfl) (in_land _) d_MD_craftPdu_121 (fun H locs hP hS => ?_)
                refine lv_aload_n hx hb d_MD_craftPdu_122 rfl (lv_at hl 4 rfl) ?_
                refine gg_MD (k := 41) (v := .ref (ad 25)) hx hb hts hown hK hP  (hts _ (List.mem_cons_of_mem _ tw_822)) (by decide) rfl rfl d_MD_craftPdu_123 ?_
                refine lv_iload hx hb d_MD_craftPdu_126 (lv_at hl 2 rfl) ?_
                refine ag_Astage (v := .int ((fl_i M 25 ((((j_lshr x1 40) &&& 15).toInt32).toNatClampNeg) (M.1 25 ((((j_lshr x1 40) &&& 15).toInt32).toNatClampNeg))).1 25 ((((j_lshr x1 40) &&& 15).toInt32).toNatClampNeg))) hx hb hK hP  (in_land _) rfl d_MD_craftPdu_128 ?_
                refine lv_iconst (v := 1) hx hb d_MD_craftPdu_129 (by decide) ?_
                refine lv_icmp_ne (tgt := 191) hx hb d_MD_craftPdu_130 (by decide) (fun h_20 => ?_) (fun h_20 => ?_)
                ·
                  have hG := hG.trans (if_neg h_20)
                  refine lv_aload_n hx hb d_MD_craftPdu_191 rfl (lv_at hl 4 rfl) ?_
                  refine gg_MD (k := 41) (v := .ref (ad 25)) hx hb hts hown hK hP  (hts _ (List.mem_cons_of_mem _ tw_822)) (by decide) rfl rfl d_MD_craftPdu_192 ?_
                  refine lv_iload hx hb d_MD_craftPdu_195 (lv_at hl 2 rfl) ?_
                  refine ag_Astage (v := .int ((fl_i M 25 ((((j_lshr x1 40) &&& 15).toInt32).toNatClampNeg) (M.1 25 ((((j_lshr x1 40) &&& 15).toInt32).toNatClampNeg))).1 25 ((((j_lshr x1 40) &&& 15).toInt32).toNatClampNeg))) hx hb hK hP  (in_land _) rfl d_MD_craftPdu_197 ?_
                  refine lv_iconst (v := 2) hx hb d_MD_craftPdu_198 (by decide) ?_
                  refine lv_icmp_ne (tgt := 213) hx hb d_MD_craftPdu_199 (by decide) (fun h_21 => ?_) (fun h_21 => ?_)
                  ·
                    have hG := hG.trans (if_neg h_21)
                    exact fl_vret hx hb hr hlocks hP hS (by rw [hG]) d_MD_craftPdu_213
                  ·
                    have hG := hG.trans (if_pos h_21)
                    refine lv_iload_n hx hb d_MD_craftPdu_202 rfl (lv_at hl 3 rfl) ?_
                    refine lv_iconst (v := 5) hx hb d_MD_craftPdu_203 (by decide) ?_
                    refine lv_icmp_ne (tgt := 213) hx hb d_MD_craftPdu_204 (by decide) (fun _ => ?_) (fun h_22 => absurd h_22 (h_3))
                    exact fl_vret hx hb hr hlocks hP hS (by rw [hG]) d_MD_craftPdu_213
                ·
                  have hG := hG.trans (if_pos h_20)
                  refine lv_aload_n hx hb d_MD_craftPdu_133 rfl (lv_at hl 4 rfl) ?_
                  refine gg_MD (k := 51) (v := .ref (ad 35)) hx hb hts hown hK hP  (hts _ (List.mem_cons_of_mem _ tw_832)) (by decide) rfl rfl d_MD_craftPdu_134 ?_
                  refine lv_iload hx hb d_MD_craftPdu_137 (lv_at hl 2 rfl) ?_
                  refine lv_bipush (v := 12) hx hb d_MD_craftPdu_139 (by decide) ?_
                  refine lv_aload_n hx hb d_MD_craftPdu_141 rfl (lv_at hl 4 rfl) ?_
                  refine gg_MD (k := 1) (v := .int (M.1 0 1)) hx hb hts hown hK hP  (hts _ (List.mem_cons_of_mem _ tw_782)) (by decide) rfl rfl d_MD_craftPdu_142 ?_
                  refine lv_imul hx hb d_MD_craftPdu_145 ?_
                  refine sg_AcraftIdle hx hb hK hi hP hS  (in_land _) d_MD_craftPdu_146 (fun H locs hP hS => ?_)
                  refine lv_iload_n hx hb d_MD_craftPdu_147 rfl (lv_at hl 3 rfl) ?_
                  refine lv_iconst (v := 4) hx hb d_MD_craftPdu_148 (by decide) ?_
                  refine lv_icmp_ne (tgt := 162) hx hb d_MD_craftPdu_149 (by decide) (fun _ => ?_) (fun h_23 => absurd h_23 (h_19))
                  refine lv_iload_n hx hb d_MD_craftPdu_162 rfl (lv_at hl 3 rfl) ?_
                  refine lv_iconst (v := 4) hx hb d_MD_craftPdu_163 (by decide) ?_
                  refine lv_icmp_ge (tgt := 213) hx hb d_MD_craftPdu_164 (by decide) (fun h_24 => ?_) (fun h_24 => ?_)
                  ·
                    have hG := hG.trans (if_pos h_24)
                    exact fl_vret hx hb hr hlocks hP hS (by rw [hG]) d_MD_craftPdu_213
                  ·
                    have hG := hG.trans (if_neg h_24)
                    refine lv_aload_n hx hb d_MD_craftPdu_167 rfl (lv_at hl 4 rfl) ?_
                    refine lv_iload hx hb d_MD_craftPdu_168 (lv_at hl 2 rfl) ?_
                    refine lv_iload_n hx hb d_MD_craftPdu_170 rfl (lv_at hl 3 rfl) ?_
                    refine lv_iload hx hb d_MD_craftPdu_171 (lv_at hl 1 rfl) ?_
                    refine lv_iload hx hb d_MD_craftPdu_173 (lv_at hl 0 rfl) ?_
                    refine fl_calli (va_runV (As := [.int (((j_lshr x1 40) &&& 15).toInt32), .int (((j_lshr x1 44) &&& 15).toInt32), .int (((j_lshr x1 32) &&& 255).toInt32), .int x1.toInt32]) (rest := []) ⟨hx, hb, hml, hown, hts⟩ (c_MD_takes l hi (fl_i (fl_i (fl_i M 25 ((((j_lshr x1 40) &&& 15).toInt32).toNatClampNeg) (M.1 25 ((((j_lshr x1 40) &&& 15).toInt32).toNatClampNeg))) 36 ((((j_lshr x1 40) &&& 15).toInt32).toNatClampNeg) 0) 35 ((((j_lshr x1 40) &&& 15).toInt32).toNatClampNeg) (12 * (M.1 0 1))) (((j_lshr x1 40) &&& 15).toInt32) (((j_lshr x1 44) &&& 15).toInt32) (((j_lshr x1 32) &&& 255).toInt32) x1.toInt32 (in_land _) (nn_land _)) (kv_MD_takes hts (hts _ (List.mem_cons_of_mem _ tw_1049)) ⟨Nat.le_of_ble_eq_true rfl, Nat.le_of_ble_eq_true rfl⟩) (fl_preV hK hSt hN hS hP (by decide) (kg_MD) rfl) rfl rfl hl.1 rfl (lv_room (Nat.le_of_ble_eq_true rfl)) d_MD_craftPdu_175 ⟨Nat.zero_le _, Nat.zero_le _⟩) hS (fun H locs hP hS => ?_)
                    refine lv_if_eq (tgt := 213) hx hb d_MD_craftPdu_178 (by decide) (fun h_25 => ?_) (fun h_25 => ?_)
                    ·
                      have hG := hG.trans (if_pos h_25)
                      exact fl_vret hx hb hr hlocks hP hS (by rw [hG]) d_MD_craftPdu_213
                    ·
                      have hG := hG.trans (if_neg h_25)
                      refine lv_aload_n hx hb d_MD_craftPdu_181 rfl (lv_at hl 4 rfl) ?_
                      refine lv_iload hx hb d_MD_craftPdu_182 (lv_at hl 2 rfl) ?_
                      refine lv_iload_n hx hb d_MD_craftPdu_184 rfl (lv_at hl 3 rfl) ?_
                      refine fl_callv (va_runV (As := [.int (((j_lshr x1 40) &&& 15).toInt32), .int (((j_lshr x1 44) &&& 15).toInt32)]) (rest := []) ⟨hx, hb, hml, hown, hts⟩ (c_MD_whole l hi ((g_MD_takes (fl_i (fl_i (fl_i M 25 ((((j_lshr x1 40) &&& 15).toInt32).toNatClampNeg) (M.1 25 ((((j_lshr x1 40) &&& 15).toInt32).toNatClampNeg))) 36 ((((j_lshr x1 40) &&& 15).toInt32).toNatClampNeg) 0) 35 ((((j_lshr x1 40) &&& 15).toInt32).toNatClampNeg) (12 * (M.1 0 1))) (((j_lshr x1 40) &&& 15).toInt32) (((j_lshr x1 44) &&& 15).toInt32) (((j_lshr x1 32) &&& 255).toInt32) x1.toInt32).2) (((j_lshr x1 40) &&& 15).toInt32) (((j_lshr x1 44) &&& 15).toInt32) (in_land _) (hYt _ _ _ _ _ (in_land _) (nn_land _) (by repeat (first | exact hY | refine hYf _ _ _ _ (by decide) (by decide) (by decide) ?_)))) (kv_MD_whole hts (hts _ (List.mem_cons_of_mem _ tw_1053)) ⟨Nat.le_of_ble_eq_true rfl, Nat.le_of_ble_eq_true rfl⟩) (fl_preV hK hSt hN hS hP (by decide) (kg_MD) rfl) rfl rfl hl.1 rfl (lv_room (Nat.le_of_ble_eq_true rfl)) d_MD_craftPdu_185 ⟨Nat.zero_le _, Nat.zero_le _⟩) hS (fun H locs hP hS => ?_)
                      refine lv_goto (tgt := 213) hx hb d_MD_craftPdu_188 (by decide) ?_
                      exact fl_vret hx hb hr hlocks hP hS (by rw [hG]) d_MD_craftPdu_213
              ·
                have hG := hG.trans (if_pos h_19)
                refine lv_iconst (v := 1) hx hb d_MD_craftPdu_116 (by decide) ?_
                refine lv_goto (tgt := 121) hx hb d_MD_craftPdu_117 (by decide) ?_
                refine sg_AoweGot hx hb hK hi hP hS  (rfl) (in_land _) d_MD_craftPdu_121 (fun H locs hP hS => ?_)
                refine lv_aload_n hx hb d_MD_craftPdu_122 rfl (lv_at hl 4 rfl) ?_
                refine gg_MD (k := 41) (v := .ref (ad 25)) hx hb hts hown hK hP  (hts _ (List.mem_cons_of_mem _ tw_822)) (by decide) rfl rfl d_MD_craftPdu_123 ?_
                refine lv_iload hx hb d_MD_craftPdu_126 (lv_at hl 2 rfl) ?_
                refine ag_Astage (v := .int ((fl_i M 25 ((((j_lshr x1 40) &&& 15).toInt32).toNatClampNeg) (M.1 25 ((((j_lshr x1 40) &&& 15).toInt32).toNatClampNeg))).1 25 ((((j_lshr x1 40) &&& 15).toInt32).toNatClampNeg))) hx hb hK hP  (in_land _) rfl d_MD_craftPdu_128 ?_
                refine lv_iconst (v := 1) hx hb d_MD_craftPdu_129 (by decide) ?_
                refine lv_icmp_ne (tgt := 191) hx hb d_MD_craftPdu_130 (by decide) (fun h_26 => ?_) (fun h_26 => ?_)
                ·
                  have hG := hG.trans (if_neg h_26)
                  refine lv_aload_n hx hb d_MD_craftPdu_191 rfl (lv_at hl 4 rfl) ?_
                  refine gg_MD (k := 41) (v := .ref (ad 25)) hx hb hts hown hK hP  (hts _ (List.mem_cons_of_mem _ tw_822)) (by decide) rfl rfl d_MD_craftPdu_192 ?_
                  refine lv_iload hx hb d_MD_craftPdu_195 (lv_at hl 2 rfl) ?_
                  refine ag_Astage (v := .int ((fl_i M 25 ((((j_lshr x1 40) &&& 15).toInt32).toNatClampNeg) (M.1 25 ((((j_lshr x1 40) &&& 15).toInt32).toNatClampNeg))).1 25 ((((j_lshr x1 40) &&& 15).toInt32).toNatClampNeg))) hx hb hK hP  (in_land _) rfl d_MD_craftPdu_197 ?_
                  refine lv_iconst (v := 2) hx hb d_MD_craftPdu_198 (by decide) ?_
                  refine lv_icmp_ne (tgt := 213) hx hb d_MD_craftPdu_199 (by decide) (fun h_27 => ?_) (fun h_27 => ?_)
                  ·
                    have hG := hG.trans (if_neg h_27)
                    exact fl_vret hx hb hr hlocks hP hS (by rw [hG]) d_MD_craftPdu_213
                  ·
                    have hG := hG.trans (if_pos h_27)
                    refine lv_iload_n hx hb d_MD_craftPdu_202 rfl (lv_at hl 3 rfl) ?_
                    refine lv_iconst (v := 5) hx hb d_MD_craftPdu_203 (by decide) ?_
                    refine lv_icmp_ne (tgt := 213) hx hb d_MD_craftPdu_204 (by decide) (fun _ => ?_) (fun h_28 => absurd h_28 (h_3))
                    exact fl_vret hx hb hr hlocks hP hS (by rw [hG]) d_MD_craftPdu_213
                ·
                  have hG := hG.trans (if_pos h_26)
                  refine lv_aload_n hx hb d_MD_craftPdu_133 rfl (lv_at hl 4 rfl) ?_
                  refine gg_MD (k := 51) (v := .ref (ad 35)) hx hb hts hown hK hP  (hts _ (List.mem_cons_of_mem _ tw_832)) (by decide) rfl rfl d_MD_craftPdu_134 ?_
                  refine lv_iload hx hb d_MD_craftPdu_137 (lv_at hl 2 rfl) ?_
                  refine lv_bipush (v := 12) hx hb d_MD_craftPdu_139 (by decide) ?_
                  refine lv_aload_n hx hb d_MD_craftPdu_141 rfl (lv_at hl 4 rfl) ?_
                  refine gg_MD (k := 1) (v := .int (M.1 0 1)) hx hb hts hown hK hP  (hts _ (List.mem_cons_of_mem _ tw_782)) (by decide) rfl rfl d_MD_craftPdu_142 ?_
                  refine lv_imul hx hb d_MD_craftPdu_145 ?_
                  refine sg_AcraftIdle hx hb hK hi hP hS  (in_land _) d_MD_craftPdu_146 (fun H locs hP hS => ?_)
                  refine lv_iload_n hx hb d_MD_craftPdu_147 rfl (lv_at hl 3 rfl) ?_
                  refine lv_iconst (v := 4) hx hb d_MD_craftPdu_148 (by decide) ?_
                  refine lv_icmp_ne (tgt := 162) hx hb d_MD_craftPdu_149 (by decide) (fun h_29 => absurd (h_19) h_29) (fun _ => ?_)
                  refine lv_aload_n hx hb d_MD_craftPdu_152 rfl (lv_at hl 4 rfl) ?_
                  refine lv_iload hx hb d_MD_craftPdu_153 (lv_at hl 2 rfl) ?_
                  refine lv_iconst (v := 5) hx hb d_MD_craftPdu_155 (by decide) ?_
                  refine fl_callv (va_runV (As := [.int (((j_lshr x1 40) &&& 15).toInt32), .int 5]) (rest := []) ⟨hx, hb, hml, hown, hts⟩ (c_MD_finish l hi (fl_i (fl_i (fl_i M 25 ((((j_lshr x1 40) &&& 15).toInt32).toNatClampNeg) (M.1 25 ((((j_lshr x1 40) &&& 15).toInt32).toNatClampNeg))) 36 ((((j_lshr x1 40) &&& 15).toInt32).toNatClampNeg) 1) 35 ((((j_lshr x1 40) &&& 15).toInt32).toNatClampNeg) (12 * (M.1 0 1))) (((j_lshr x1 40) &&& 15).toInt32) 5 (in_land _)) (kv_MD_finish hts (hts _ (List.mem_cons_of_mem _ tw_1045)) ⟨Nat.le_of_ble_eq_true rfl, Nat.le_of_ble_eq_true rfl⟩) (fl_preV hK hSt hN hS hP (by decide) (kg_MD) rfl) rfl rfl hl.1 rfl (lv_room (Nat.le_of_ble_eq_true rfl)) d_MD_craftPdu_156 ⟨Nat.zero_le _, Nat.zero_le _⟩) hS (fun H locs hP hS => ?_)
                  refine lv_goto (tgt := 213) hx hb d_MD_craftPdu_159 (by decide) ?_
                  exact fl_vret hx hb hr hlocks hP hS (by rw [hG]) d_MD_craftPdu_213
        ·
          have hG := hG.trans (if_pos h_4)
          refine lv_iconst (v := 1) hx hb d_MD_craftPdu_78 (by decide) ?_
          refine lv_goto (tgt := 89) hx hb d_MD_craftPdu_79 (by decide) ?_
          refine sg_Astage hx hb hK hi hP hS  (in_land _) d_MD_craftPdu_89 (fun H locs hP hS => ?_)
          refine lv_aload_n hx hb d_MD_craftPdu_90 rfl (lv_at hl 4 rfl) ?_
          refine gg_MD (k := 52) (v := .ref (ad 36)) hx hb hts hown hK hP  (hts _ (List.mem_cons_of_mem _ tw_833)) (by decide) rfl rfl d_MD_craftPdu_91 ?_
          refine lv_iload hx hb d_MD_craftPdu_94 (lv_at hl 2 rfl) ?_
          refine lv_aload_n hx hb d_MD_craftPdu_96 rfl (lv_at hl 4 rfl) ?_
          refine gg_MD (k := 52) (v := .ref (ad 36)) hx hb hts hown hK hP  (hts _ (List.mem_cons_of_mem _ tw_833)) (by decide) rfl rfl d_MD_craftPdu_97 ?_
          refine lv_iload hx hb d_MD_craftPdu_100 (lv_at hl 2 rfl) ?_
          refine ag_AoweGot (v := .int (M.1 36 ((((j_lshr x1 40) &&& 15).toInt32).toNatClampNeg))) hx hb hK hP  (in_land _) rfl d_MD_craftPdu_102 ?_
          refine lv_if_ne (tgt := 116) hx hb d_MD_craftPdu_103 (by decide) (fun h_30 => ?_) (fun h_30 => ?_)
          ·
            have hG := hG.trans (if_neg h_30)
            refine lv_iconst (v := 1) hx hb d_MD_craftPdu_116 (by decide) ?_
            refine lv_goto (tgt := 121) hx hb d_MD_craftPdu_117 (by decide) ?_
            refine sg_AoweGot hx hb hK hi hP hS  (rfl) (in_land _) d_MD_craftPdu_121 (fun H locs hP hS => ?_)
            refine lv_aload_n hx hb d_MD_craftPdu_122 rfl (lv_at hl 4 rfl) ?_
            refine gg_MD (k := 41) (v := .ref (ad 25)) hx hb hts hown hK hP  (hts _ (List.mem_cons_of_mem _ tw_822)) (by decide) rfl rfl d_MD_craftPdu_123 ?_
            refine lv_iload hx hb d_MD_craftPdu_126 (lv_at hl 2 rfl) ?_
            refine ag_Astage (v := .int ((fl_i M 25 ((((j_lshr x1 40) &&& 15).toInt32).toNatClampNeg) 1).1 25 ((((j_lshr x1 40) &&& 15).toInt32).toNatClampNeg))) hx hb hK hP  (in_land _) rfl d_MD_craftPdu_128 ?_
            refine lv_iconst (v := 1) hx hb d_MD_craftPdu_129 (by decide) ?_
            refine lv_icmp_ne (tgt := 191) hx hb d_MD_craftPdu_130 (by decide) (fun h_31 => ?_) (fun h_31 => ?_)
            ·
              have hG := hG.trans (if_neg h_31)
              refine lv_aload_n hx hb d_MD_craftPdu_191 rfl (lv_at hl 4 rfl) ?_
              refine gg_MD (k := 41) (v := .ref (ad 25)) hx hb hts hown hK hP  (hts _ (List.mem_cons_of_mem _ tw_822)) (by decide) rfl rfl d_MD_craftPdu_192 ?_
              refine lv_iload hx hb d_MD_craftPdu_195 (lv_at hl 2 rfl) ?_
              refine ag_Astage (v := .int ((fl_i M 25 ((((j_lshr x1 40) &&& 15).toInt32).toNatClampNeg) 1).1 25 ((((j_lshr x1 40) &&& 15).toInt32).toNatClampNeg))) hx hb hK hP  (in_land _) rfl d_MD_craftPdu_197 ?_
              refine lv_iconst (v := 2) hx hb d_MD_craftPdu_198 (by decide) ?_
              refine lv_icmp_ne (tgt := 213) hx hb d_MD_craftPdu_199 (by decide) (fun h_32 => ?_) (fun h_32 => ?_)
              ·
                have hG := hG.trans (if_neg h_32)
                exact fl_vret hx hb hr hlocks hP hS (by rw [hG]) d_MD_craftPdu_213
              ·
                have hG := hG.trans (if_pos h_32)
                refine lv_iload_n hx hb d_MD_craftPdu_202 rfl (lv_at hl 3 rfl) ?_
                refine lv_iconst (v := 5) hx hb d_MD_craftPdu_203 (by decide) ?_
                refine lv_icmp_ne (tgt := 213) hx hb d_MD_craftPdu_204 (by decide) (fun _ => ?_) (fun h_33 => absurd h_33 (h_3))
                exact fl_vret hx hb hr hlocks hP hS (by rw [hG]) d_MD_craftPdu_213
            ·
              have hG := hG.trans (if_pos h_31)
              refine lv_aload_n hx hb d_MD_craftPdu_133 rfl (lv_at hl 4 rfl) ?_
              refine gg_MD (k := 51) (v := .ref (ad 35)) hx hb hts hown hK hP  (hts _ (List.mem_cons_of_mem _ tw_832)) (by decide) rfl rfl d_MD_craftPdu_134 ?_
              refine lv_iload hx hb d_MD_craftPdu_137 (lv_at hl 2 rfl) ?_
              refine lv_bipush (v := 12) hx hb d_MD_craftPdu_139 (by decide) ?_
              refine lv_aload_n hx hb d_MD_craftPdu_141 rfl (lv_at hl 4 rfl) ?_
              refine gg_MD (k := 1) (v := .int (M.1 0 1)) hx hb hts hown hK hP  (hts _ (List.mem_cons_of_mem _ tw_782)) (by decide) rfl rfl d_MD_craftPdu_142 ?_
              refine lv_imul hx hb d_MD_craftPdu_145 ?_
              refine sg_AcraftIdle hx hb hK hi hP hS  (in_land _) d_MD_craftPdu_146 (fun H locs hP hS => ?_)
              refine lv_iload_n hx hb d_MD_craftPdu_147 rfl (lv_at hl 3 rfl) ?_
              refine lv_iconst (v := 4) hx hb d_MD_craftPdu_148 (by decide) ?_
              refine lv_icmp_ne (tgt := 162) hx hb d_MD_craftPdu_149 (by decide) (fun h_34 => ?_) (fun h_34 => ?_)
              ·
                have hG := hG.trans (if_neg h_34)
                refine lv_iload_n hx hb d_MD_craftPdu_162 rfl (lv_at hl 3 rfl) ?_
                refine lv_iconst (v := 4) hx hb d_MD_craftPdu_163 (by decide) ?_
                refine lv_icmp_ge (tgt := 213) hx hb d_MD_craftPdu_164 (by decide) (fun h_35 => ?_) (fun h_35 => ?_)
                ·
                  have hG := hG.trans (if_pos h_35)
                  exact fl_vret hx hb hr hlocks hP hS (by rw [hG]) d_MD_craftPdu_213
                ·
                  have hG := hG.trans (if_neg h_35)
                  refine lv_aload_n hx hb d_MD_craftPdu_167 rfl (lv_at hl 4 rfl) ?_
                  refine lv_iload hx hb d_MD_craftPdu_168 (lv_at hl 2 rfl) ?_
                  refine lv_iload_n hx hb d_MD_craftPdu_170 rfl (lv_at hl 3 rfl) ?_
                  refine lv_iload hx hb d_MD_craftPdu_171 (lv_at hl 1 rfl) ?_
                  refine lv_iload hx hb d_MD_craftPdu_173 (lv_at hl 0 rfl) ?_
                  refine fl_calli (va_runV (As := [.int (((j_lshr x1 40) &&& 15).toInt32), .int (((j_lshr x1 44) &&& 15).toInt32), .int (((j_lshr x1 32) &&& 255).toInt32), .int x1.toInt32]) (rest := []) ⟨hx, hb, hml, hown, hts⟩ (c_MD_takes l hi (fl_i (fl_i (fl_i M 25 ((((j_lshr x1 40) &&& 15).toInt32).toNatClampNeg) 1) 36 ((((j_lshr x1 40) &&& 15).toInt32).toNatClampNeg) 1) 35 ((((j_lshr x1 40) &&& 15).toInt32).toNatClampNeg) (12 * (M.1 0 1))) (((j_lshr x1 40) &&& 15).toInt32) (((j_lshr x1 44) &&& 15).toInt32) (((j_lshr x1 32) &&& 255).toInt32) x1.toInt32 (in_land _) (nn_land _)) (kv_MD_takes hts (hts _ (List.mem_cons_of_mem _ tw_1049)) ⟨Nat.le_of_ble_eq_true rfl, Nat.le_of_ble_eq_true rfl⟩) (fl_preV hK hSt hN hS hP (by decide) (kg_MD) rfl) rfl rfl hl.1 rfl (lv_room (Nat.le_of_ble_eq_true rfl)) d_MD_craftPdu_175 ⟨Nat.zero_le _, Nat.zero_le _⟩) hS (fun H locs hP hS => ?_)
                  refine lv_if_eq (tgt := 213) hx hb d_MD_craftPdu_178 (by decide) (fun h_36 => ?_) (fun h_36 => ?_)
                  ·
                    have hG := hG.trans (if_pos h_36)
                    exact fl_vret hx hb hr hlocks hP hS (by rw [hG]) d_MD_craftPdu_213
                  ·
                    have hG := hG.trans (if_neg h_36)
                    refine lv_aload_n hx hb d_MD_craftPdu_181 rfl (lv_at hl 4 rfl) ?_
                    refine lv_iload hx hb d_MD_craftPdu_182 (lv_at hl 2 rfl) ?_
                    refine lv_iload_n hx hb d_MD_craftPdu_184 rfl (lv_at hl 3 rfl) ?_
                    refine fl_callv (va_runV (As := [.int (((j_lshr x1 40) &&& 15).toInt32), .int (((j_lshr x1 44) &&& 15).toInt32)]) (rest := []) ⟨hx, hb, hml, hown, hts⟩ (c_MD_whole l hi ((g_MD_takes (fl_i (fl_i (fl_i M 25 ((((j_lshr x1 40) &&& 15).toInt32).toNatClampNeg) 1) 36 ((((j_lshr x1 40) &&& 15).toInt32).toNatClampNeg) 1) 35 ((((j_lshr x1 40) &&& 15).toInt32).toNatClampNeg) (12 * (M.1 0 1))) (((j_lshr x1 40) &&& 15).toInt32) (((j_lshr x1 44) &&& 15).toInt32) (((j_lshr x1 32) &&& 255).toInt32) x1.toInt32).2) (((j_lshr x1 40) &&& 15).toInt32) (((j_lshr x1 44) &&& 15).toInt32) (in_land _) (hYt _ _ _ _ _ (in_land _) (nn_land _) (by repeat (first | exact hY | refine hYf _ _ _ _ (by decide) (by decide) (by decide) ?_)))) (kv_MD_whole hts (hts _ (List.mem_cons_of_mem _ tw_1053)) ⟨Nat.le_of_ble_eq_true rfl, Nat.le_of_ble_eq_true rfl⟩) (fl_preV hK hSt hN hS hP (by decide) (kg_MD) rfl) rfl rfl hl.1 rfl (lv_room (Nat.le_of_ble_eq_true rfl)) d_MD_craftPdu_185 ⟨Nat.zero_le _, Nat.zero_le _⟩) hS (fun H locs hP hS => ?_)
                    refine lv_goto (tgt := 213) hx hb d_MD_craftPdu_188 (by decide) ?_
                    exact fl_vret hx hb hr hlocks hP hS (by rw [hG]) d_MD_craftPdu_213
              ·
                have hG := hG.trans (if_pos h_34)
                refine lv_aload_n hx hb d_MD_craftPdu_152 rfl (lv_at hl 4 rfl) ?_
                refine lv_iload hx hb d_MD_craftPdu_153 (lv_at hl 2 rfl) ?_
                refine lv_iconst (v := 5) hx hb d_MD_craftPdu_155 (by decide) ?_
                refine fl_callv (va_runV (As := [.int (((j_lshr x1 40) &&& 15).toInt32), .int 5]) (rest := []) ⟨hx, hb, hml, hown, hts⟩ (c_MD_finish l hi (fl_i (fl_i (fl_i M 25 ((((j_lshr x1 40) &&& 15).toInt32).toNatClampNeg) 1) 36 ((((j_lshr x1 40) &&& 15).toInt32).toNatClampNeg) 1) 35 ((((j_lshr x1 40) &&& 15).toInt32).toNatClampNeg) (12 * (M.1 0 1))) (((j_lshr x1 40) &&& 15).toInt32) 5 (in_land _)) (kv_MD_finish hts (hts _ (List.mem_cons_of_mem _ tw_1045)) ⟨Nat.le_of_ble_eq_true rfl, Nat.le_of_ble_eq_true rfl⟩) (fl_preV hK hSt hN hS hP (by decide) (kg_MD) rfl) rfl rfl hl.1 rfl (lv_room (Nat.le_of_ble_eq_true rfl)) d_MD_craftPdu_156 ⟨Nat.zero_le _, Nat.zero_le _⟩) hS (fun H locs hP hS => ?_)
                refine lv_goto (tgt := 213) hx hb d_MD_craftPdu_159 (by decide) ?_
                exact fl_vret hx hb hr hlocks hP hS (by rw [hG]) d_MD_craftPdu_213
          ·
            have hG := hG.trans (if_pos h_30)
            refine lv_iload_n hx hb d_MD_craftPdu_106 rfl (lv_at hl 3 rfl) ?_
            refine lv_iconst (v := 3) hx hb d_MD_craftPdu_107 (by decide) ?_
            refine lv_icmp_eq (tgt := 116) hx hb d_MD_craftPdu_108 (by decide) (fun h_37 => ?_) (fun h_37 => ?_)
            ·
              have hG := hG.trans (if_pos h_37)
              refine lv_iconst (v := 1) hx hb d_MD_craftPdu_116 (by decide) ?_
              refine lv_goto (tgt := 121) hx hb d_MD_craftPdu_117 (by decide) ?_
              refine sg_AoweGot hx hb hK hi hP hS  (rfl) (in_land _) d_MD_craftPdu_121 (fun H locs hP hS => ?_)
              refine lv_aload_n hx hb d_MD_craftPdu_122 rfl (lv_at hl 4 rfl) ?_
              refine gg_MD (k := 41) (v := .ref (ad 25)) hx hb hts hown hK hP  (hts _ (List.mem_cons_of_mem _ tw_822)) (by decide) rfl rfl d_MD_craftPdu_123 ?_
              refine lv_iload hx hb d_MD_craftPdu_126 (lv_at hl 2 rfl) ?_
              refine ag_Astage (v := .int ((fl_i M 25 ((((j_lshr x1 40) &&& 15).toInt32).toNatClampNeg) 1).1 25 ((((j_lshr x1 40) &&& 15).toInt32).toNatClampNeg))) hx hb hK hP  (in_land _) rfl d_MD_craftPdu_128 ?_
              refine lv_iconst (v := 1) hx hb d_MD_craftPdu_129 (by decide) ?_
              refine lv_icmp_ne (tgt := 191) hx hb d_MD_craftPdu_130 (by decide) (fun h_38 => ?_) (fun h_38 => ?_)
              ·
                have hG := hG.trans (if_neg h_38)
                refine lv_aload_n hx hb d_MD_craftPdu_191 rfl (lv_at hl 4 rfl) ?_
                refine gg_MD (k := 41) (v := .ref (ad 25)) hx hb hts hown hK hP  (hts _ (List.mem_cons_of_mem _ tw_822)) (by decide) rfl rfl d_MD_craftPdu_192 ?_
                refine lv_iload hx hb d_MD_craftPdu_195 (lv_at hl 2 rfl) ?_
                refine ag_Astage (v := .int ((fl_i M 25 ((((j_lshr x1 40) &&& 15).toInt32).toNatClampNeg) 1).1 25 ((((j_lshr x1 40) &&& 15).toInt32).toNatClampNeg))) hx hb hK hP  (in_land _) rfl d_MD_craftPdu_197 ?_
                refine lv_iconst (v := 2) hx hb d_MD_craftPdu_198 (by decide) ?_
                refine lv_icmp_ne (tgt := 213) hx hb d_MD_craftPdu_199 (by decide) (fun h_39 => ?_) (fun h_39 => ?_)
                ·
                  have hG := hG.trans (if_neg h_39)
                  exact fl_vret hx hb hr hlocks hP hS (by rw [hG]) d_MD_craftPdu_213
                ·
                  have hG := hG.trans (if_pos h_39)
                  refine lv_iload_n hx hb d_MD_craftPdu_202 rfl (lv_at hl 3 rfl) ?_
                  refine lv_iconst (v := 5) hx hb d_MD_craftPdu_203 (by decide) ?_
                  refine lv_icmp_ne (tgt := 213) hx hb d_MD_craftPdu_204 (by decide) (fun _ => ?_) (fun h_40 => absurd h_40 (h_3))
                  exact fl_vret hx hb hr hlocks hP hS (by rw [hG]) d_MD_craftPdu_213
              ·
                have hG := hG.trans (if_pos h_38)
                refine lv_aload_n hx hb d_MD_craftPdu_133 rfl (lv_at hl 4 rfl) ?_
                refine gg_MD (k := 51) (v := .ref (ad 35)) hx hb hts hown hK hP  (hts _ (List.mem_cons_of_mem _ tw_832)) (by decide) rfl rfl d_MD_craftPdu_134 ?_
                refine lv_iload hx hb d_MD_craftPdu_137 (lv_at hl 2 rfl) ?_
                refine lv_bipush (v := 12) hx hb d_MD_craftPdu_139 (by decide) ?_
                refine lv_aload_n hx hb d_MD_craftPdu_141 rfl (lv_at hl 4 rfl) ?_
                refine gg_MD (k := 1) (v := .int (M.1 0 1)) hx hb hts hown hK hP  (hts _ (List.mem_cons_of_mem _ tw_782)) (by decide) rfl rfl d_MD_craftPdu_142 ?_
                refine lv_imul hx hb d_MD_craftPdu_145 ?_
                refine sg_AcraftIdle hx hb hK hi hP hS  (in_land _) d_MD_craftPdu_146 (fun H locs hP hS => ?_)
                refine lv_iload_n hx hb d_MD_craftPdu_147 rfl (lv_at hl 3 rfl) ?_
                refine lv_iconst (v := 4) hx hb d_MD_craftPdu_148 (by decide) ?_
                refine lv_icmp_ne (tgt := 162) hx hb d_MD_craftPdu_149 (by decide) (fun _ => ?_) (fun h_41 => absurd h_41 (by rw [h_37]; decide))
                refine lv_iload_n hx hb d_MD_craftPdu_162 rfl (lv_at hl 3 rfl) ?_
                refine lv_iconst (v := 4) hx hb d_MD_craftPdu_163 (by decide) ?_
                refine lv_icmp_ge (tgt := 213) hx hb d_MD_craftPdu_164 (by decide) (fun h_42 => absurd h_42 (by rw [h_37]; decide)) (fun _ => ?_)
                refine lv_aload_n hx hb d_MD_craftPdu_167 rfl (lv_at hl 4 rfl) ?_
                refine lv_iload hx hb d_MD_craftPdu_168 (lv_at hl 2 rfl) ?_
                refine lv_iload_n hx hb d_MD_craftPdu_170 rfl (lv_at hl 3 rfl) ?_
                refine lv_iload hx hb d_MD_craftPdu_171 (lv_at hl 1 rfl) ?_
                refine lv_iload hx hb d_MD_craftPdu_173 (lv_at hl 0 rfl) ?_
                refine fl_calli (va_runV (As := [.int (((j_lshr x1 40) &&& 15).toInt32), .int (((j_lshr x1 44) &&& 15).toInt32), .int (((j_lshr x1 32) &&& 255).toInt32), .int x1.toInt32]) (rest := []) ⟨hx, hb, hml, hown, hts⟩ (c_MD_takes l hi (fl_i (fl_i (fl_i M 25 ((((j_lshr x1 40) &&& 15).toInt32).toNatClampNeg) 1) 36 ((((j_lshr x1 40) &&& 15).toInt32).toNatClampNeg) 1) 35 ((((j_lshr x1 40) &&& 15).toInt32).toNatClampNeg) (12 * (M.1 0 1))) (((j_lshr x1 40) &&& 15).toInt32) (((j_lshr x1 44) &&& 15).toInt32) (((j_lshr x1 32) &&& 255).toInt32) x1.toInt32 (in_land _) (nn_land _)) (kv_MD_takes hts (hts _ (List.mem_cons_of_mem _ tw_1049)) ⟨Nat.le_of_ble_eq_true rfl, Nat.le_of_ble_eq_true rfl⟩) (fl_preV hK hSt hN hS hP (by decide) (kg_MD) rfl) rfl rfl hl.1 rfl (lv_room (Nat.le_of_ble_eq_true rfl)) d_MD_craftPdu_175 ⟨Nat.zero_le _, Nat.zero_le _⟩) hS (fun H locs hP hS => ?_)
                refine lv_if_eq (tgt := 213) hx hb d_MD_craftPdu_178 (by decide) (fun h_43 => ?_) (fun h_43 => ?_)
                ·
                  have hG := hG.trans (if_pos h_43)
                  exact fl_vret hx hb hr hlocks hP hS (by rw [hG]) d_MD_craftPdu_213
                ·
                  have hG := hG.trans (if_neg h_43)
                  refine lv_aload_n hx hb d_MD_craftPdu_181 rfl (lv_at hl 4 rfl) ?_
                  refine lv_iload hx hb d_MD_craftPdu_182 (lv_at hl 2 rfl) ?_
                  refine lv_iload_n hx hb d_MD_craftPdu_184 rfl (lv_at hl 3 rfl) ?_
                  refine fl_callv (va_runV (As := [.int (((j_lshr x1 40) &&& 15).toInt32), .int (((j_lshr x1 44) &&& 15).toInt32)]) (rest := []) ⟨hx, hb, hml, hown, hts⟩ (c_MD_whole l hi ((g_MD_takes (fl_i (fl_i (fl_i M 25 ((((j_lshr x1 40) &&& 15).toInt32).toNatClampNeg) 1) 36 ((((j_lshr x1 40) &&& 15).toInt32).toNatClampNeg) 1) 35 ((((j_lshr x1 40) &&& 15).toInt32).toNatClampNeg) (12 * (M.1 0 1))) (((j_lshr x1 40) &&& 15).toInt32) (((j_lshr x1 44) &&& 15).toInt32) (((j_lshr x1 32) &&& 255).toInt32) x1.toInt32).2) (((j_lshr x1 40) &&& 15).toInt32) (((j_lshr x1 44) &&& 15).toInt32) (in_land _) (hYt _ _ _ _ _ (in_land _) (nn_land _) (by repeat (first | exact hY | refine hYf _ _ _ _ (by decide) (by decide) (by decide) ?_)))) (kv_MD_whole hts (hts _ (List.mem_cons_of_mem _ tw_1053)) ⟨Nat.le_of_ble_eq_true rfl, Nat.le_of_ble_eq_true rfl⟩) (fl_preV hK hSt hN hS hP (by decide) (kg_MD) rfl) rfl rfl hl.1 rfl (lv_room (Nat.le_of_ble_eq_true rfl)) d_MD_craftPdu_185 ⟨Nat.zero_le _, Nat.zero_le _⟩) hS (fun H locs hP hS => ?_)
                  refine lv_goto (tgt := 213) hx hb d_MD_craftPdu_188 (by decide) ?_
                  exact fl_vret hx hb hr hlocks hP hS (by rw [hG]) d_MD_craftPdu_213
            ·
              have hG := hG.trans (if_neg h_37)
              refine lv_iload_n hx hb d_MD_craftPdu_111 rfl (lv_at hl 3 rfl) ?_
              refine lv_iconst (v := 4) hx hb d_MD_craftPdu_112 (by decide) ?_
              refine lv_icmp_ne (tgt := 120) hx hb d_MD_craftPdu_113 (by decide) (fun h_44 => ?_) (fun h_44 => ?_)
              ·
                have hG := hG.trans (if_neg h_44)
                refine lv_iconst (v := 0) hx hb d_MD_craftPdu_120 (by decide) ?_
                refine sg_AoweGot hx hb hK hi hP hS  (rfl) (in_land _) d_MD_craftPdu_121 (fun H locs hP hS => ?_)
                refine lv_aload_n hx hb d_MD_craftPdu_122 rfl (lv_at hl 4 rfl) ?_
                refine gg_MD (k := 41) (v := .ref (ad 25)) hx hb hts hown hK hP  (hts _ (List.mem_cons_of_mem _ tw_822)) (by decide) rfl rfl d_MD_craftPdu_123 ?_
                refine lv_iload hx hb d_MD_craftPdu_126 (lv_at hl 2 rfl) ?_
                refine ag_Astage (v := .int ((fl_i M 25 ((((j_lshr x1 40) &&& 15).toInt32).toNatClampNeg) 1).1 25 ((((j_lshr x1 40) &&& 15).toInt32).toNatClampNeg))) hx hb hK hP  (in_land _) rfl d_MD_craftPdu_128 ?_
                refine lv_iconst (v := 1) hx hb d_MD_craftPdu_129 (by decide) ?_
                refine lv_icmp_ne (tgt := 191) hx hb d_MD_craftPdu_130 (by decide) (fun h_45 => ?_) (fun h_45 => ?_)
                ·
                  have hG := hG.trans (if_neg h_45)
                  refine lv_aload_n hx hb d_MD_craftPdu_191 rfl (lv_at hl 4 rfl) ?_
                  refine gg_MD (k := 41) (v := .ref (ad 25)) hx hb hts hown hK hP  (hts _ (List.mem_cons_of_mem _ tw_822)) (by decide) rfl rfl d_MD_craftPdu_192 ?_
                  refine lv_iload hx hb d_MD_craftPdu_195 (lv_at hl 2 rfl) ?_
                  refine ag_Astage (v := .int ((fl_i M 25 ((((j_lshr x1 40) &&& 15).toInt32).toNatClampNeg) 1).1 25 ((((j_lshr x1 40) &&& 15).toInt32).toNatClampNeg))) hx hb hK hP  (in_land _) rfl d_MD_craftPdu_197 ?_
                  refine lv_iconst (v := 2) hx hb d_MD_craftPdu_198 (by decide) ?_
                  refine lv_icmp_ne (tgt := 213) hx hb d_MD_craftPdu_199 (by decide) (fun h_46 => ?_) (fun h_46 => ?_)
                  ·
                    have hG := hG.trans (if_neg h_46)
                    exact fl_vret hx hb hr hlocks hP hS (by rw [hG]) d_MD_craftPdu_213
                  ·
                    have hG := hG.trans (if_pos h_46)
                    refine lv_iload_n hx hb d_MD_craftPdu_202 rfl (lv_at hl 3 rfl) ?_
                    refine lv_iconst (v := 5) hx hb d_MD_craftPdu_203 (by decide) ?_
                    refine lv_icmp_ne (tgt := 213) hx hb d_MD_craftPdu_204 (by decide) (fun _ => ?_) (fun h_47 => absurd h_47 (h_3))
                    exact fl_vret hx hb hr hlocks hP hS (by rw [hG]) d_MD_craftPdu_213
                ·
                  have hG := hG.trans (if_pos h_45)
                  refine lv_aload_n hx hb d_MD_craftPdu_133 rfl (lv_at hl 4 rfl) ?_
                  refine gg_MD (k := 51) (v := .ref (ad 35)) hx hb hts hown hK hP  (hts _ (List.mem_cons_of_mem _ tw_832)) (by decide) rfl rfl d_MD_craftPdu_134 ?_
                  refine lv_iload hx hb d_MD_craftPdu_137 (lv_at hl 2 rfl) ?_
                  refine lv_bipush (v := 12) hx hb d_MD_craftPdu_139 (by decide) ?_
                  refine lv_aload_n hx hb d_MD_craftPdu_141 rfl (lv_at hl 4 rfl) ?_
                  refine gg_MD (k := 1) (v := .int (M.1 0 1)) hx hb hts hown hK hP  (hts _ (List.mem_cons_of_mem _ tw_782)) (by decide) rfl rfl d_MD_craftPdu_142 ?_
                  refine lv_imul hx hb d_MD_craftPdu_145 ?_
                  refine sg_AcraftIdle hx hb hK hi hP hS  (in_land _) d_MD_craftPdu_146 (fun H locs hP hS => ?_)
                  refine lv_iload_n hx hb d_MD_craftPdu_147 rfl (lv_at hl 3 rfl) ?_
                  refine lv_iconst (v := 4) hx hb d_MD_craftPdu_148 (by decide) ?_
                  refine lv_icmp_ne (tgt := 162) hx hb d_MD_craftPdu_149 (by decide) (fun _ => ?_) (fun h_48 => absurd h_48 (h_44))
                  refine lv_iload_n hx hb d_MD_craftPdu_162 rfl (lv_at hl 3 rfl) ?_
                  refine lv_iconst (v := 4) hx hb d_MD_craftPdu_163 (by decide) ?_
                  refine lv_icmp_ge (tgt := 213) hx hb d_MD_craftPdu_164 (by decide) (fun h_49 => ?_) (fun h_49 => ?_)
                  ·
                    have hG := hG.trans (if_pos h_49)
                    exact fl_vret hx hb hr hlocks hP hS (by rw [hG]) d_MD_craftPdu_213
                  ·
                    have hG := hG.trans (if_neg h_49)
                    refine lv_aload_n hx hb d_MD_craftPdu_167 rfl (lv_at hl 4 rfl) ?_
                    refine lv_iload hx hb d_MD_craftPdu_168 (lv_at hl 2 rfl) ?_
                    refine lv_iload_n hx hb d_MD_craftPdu_170 rfl (lv_at hl 3 rfl) ?_
                    refine lv_iload hx hb d_MD_craftPdu_171 (lv_at hl 1 rfl) ?_
                    refine lv_iload hx hb d_MD_craftPdu_173 (lv_at hl 0 rfl) ?_
                    refine fl_calli (va_runV (As := [.int (((j_lshr x1 40) &&& 15).toInt32), .int (((j_lshr x1 44) &&& 15).toInt32), .int (((j_lshr x1 32) &&& 255).toInt32), .int x1.toInt32]) (rest := []) ⟨hx, hb, hml, hown, hts⟩ (c_MD_takes l hi (fl_i (fl_i (fl_i M 25 ((((j_lshr x1 40) &&& 15).toInt32).toNatClampNeg) 1) 36 ((((j_lshr x1 40) &&& 15).toInt32).toNatClampNeg) 0) 35 ((((j_lshr x1 40) &&& 15).toInt32).toNatClampNeg) (12 * (M.1 0 1))) (((j_lshr x1 40) &&& 15).toInt32) (((j_lshr x1 44) &&& 15).toInt32) (((j_lshr x1 32) &&& 255).toInt32) x1.toInt32 (in_land _) (nn_land _)) (kv_MD_takes hts (hts _ (List.mem_cons_of_mem _ tw_1049)) ⟨Nat.le_of_ble_eq_true rfl, Nat.le_of_ble_eq_true rfl⟩) (fl_preV hK hSt hN hS hP (by decide) (kg_MD) rfl) rfl rfl hl.1 rfl (lv_room (Nat.le_of_ble_eq_true rfl)) d_MD_craftPdu_175 ⟨Nat.zero_le _, Nat.zero_le _⟩) hS (fun H locs hP hS => ?_)
                    refine lv_if_eq (tgt := 213) hx hb d_MD_craftPdu_178 (by decide) (fun h_50 => ?_) (fun h_50 => ?_)
                    ·
                      have hG := hG.trans (if_pos h_50)
                      exact fl_vret hx hb hr hlocks hP hS (by rw [hG]) d_MD_craftPdu_213
                    ·
                      have hG := hG.trans (if_neg h_50)
                      refine lv_aload_n hx hb d_MD_craftPdu_181 rfl (lv_at hl 4 rfl) ?_
                      refine lv_iload hx hb d_MD_craftPdu_182 (lv_at hl 2 rfl) ?_
                      refine lv_iload_n hx hb d_MD_craftPdu_184 rfl (lv_at hl 3 rfl) ?_
                      refine fl_callv (va_runV (As := [.int (((j_lshr x1 40) &&& 15).toInt32), .int (((j_lshr x1 44) &&& 15).toInt32)]) (rest := []) ⟨hx, hb, hml, hown, hts⟩ (c_MD_whole l hi ((g_MD_takes (fl_i (fl_i (fl_i M 25 ((((j_lshr x1 40) &&& 15).toInt32).toNatClampNeg) 1) 36 ((((j_lshr x1 40) &&& 15).toInt32).toNatClampNeg) 0) 35 ((((j_lshr x1 40) &&& 15).toInt32).toNatClampNeg) (12 * (M.1 0 1))) (((j_lshr x1 40) &&& 15).toInt32) (((j_lshr x1 44) &&& 15).toInt32) (((j_lshr x1 32) &&& 255).toInt32) x1.toInt32).2) (((j_lshr x1 40) &&& 15).toInt32) (((j_lshr x1 44) &&& 15).toInt32) (in_land _) (hYt _ _ _ _ _ (in_land _) (nn_land _) (by repeat (first | exact hY | refine hYf _ _ _ _ (by decide) (by decide) (by decide) ?_)))) (kv_MD_whole hts (hts _ (List.mem_cons_of_mem _ tw_1053)) ⟨Nat.le_of_ble_eq_true rfl, Nat.le_of_ble_eq_true rfl⟩) (fl_preV hK hSt hN hS hP (by decide) (kg_MD) rfl) rfl rfl hl.1 rfl (lv_room (Nat.le_of_ble_eq_true rfl)) d_MD_craftPdu_185 ⟨Nat.zero_le _, Nat.zero_le _⟩) hS (fun H locs hP hS => ?_)
                      refine lv_goto (tgt := 213) hx hb d_MD_craftPdu_188 (by decide) ?_
                      exact fl_vret hx hb hr hlocks hP hS (by rw [hG]) d_MD_craftPdu_213
              ·
                have hG := hG.trans (if_pos h_44)
                refine lv_iconst (v := 1) hx hb d_MD_craftPdu_116 (by decide) ?_
                refine lv_goto (tgt := 121) hx hb d_MD_craftPdu_117 (by decide) ?_
                refine sg_AoweGot hx hb hK hi hP hS  (rfl) (in_land _) d_MD_craftPdu_121 (fun H locs hP hS => ?_)
                refine lv_aload_n hx hb d_MD_craftPdu_122 rfl (lv_at hl 4 rfl) ?_
                refine gg_MD (k := 41) (v := .ref (ad 25)) hx hb hts hown hK hP  (hts _ (List.mem_cons_of_mem _ tw_822)) (by decide) rfl rfl d_MD_craftPdu_123 ?_
                refine lv_iload hx hb d_MD_craftPdu_126 (lv_at hl 2 rfl) ?_
                refine ag_Astage (v := .int ((fl_i M 25 ((((j_lshr x1 40) &&& 15).toInt32).toNatClampNeg) 1).1 25 ((((j_lshr x1 40) &&& 15).toInt32).toNatClampNeg))) hx hb hK hP  (in_land _) rfl d_MD_craftPdu_128 ?_
                refine lv_iconst (v := 1) hx hb d_MD_craftPdu_129 (by decide) ?_
                refine lv_icmp_ne (tgt := 191) hx hb d_MD_craftPdu_130 (by decide) (fun h_51 => ?_) (fun h_51 => ?_)
                ·
                  have hG := hG.trans (if_neg h_51)
                  refine lv_aload_n hx hb d_MD_craftPdu_191 rfl (lv_at hl 4 rfl) ?_
                  refine gg_MD (k := 41) (v := .ref (ad 25)) hx hb hts hown hK hP  (hts _ (List.mem_cons_of_mem _ tw_822)) (by decide) rfl rfl d_MD_craftPdu_192 ?_
                  refine lv_iload hx hb d_MD_craftPdu_195 (lv_at hl 2 rfl) ?_
                  refine ag_Astage (v := .int ((fl_i M 25 ((((j_lshr x1 40) &&& 15).toInt32).toNatClampNeg) 1).1 25 ((((j_lshr x1 40) &&& 15).toInt32).toNatClampNeg))) hx hb hK hP  (in_land _) rfl d_MD_craftPdu_197 ?_
                  refine lv_iconst (v := 2) hx hb d_MD_craftPdu_198 (by decide) ?_
                  refine lv_icmp_ne (tgt := 213) hx hb d_MD_craftPdu_199 (by decide) (fun h_52 => ?_) (fun h_52 => ?_)
                  ·
                    have hG := hG.trans (if_neg h_52)
                    exact fl_vret hx hb hr hlocks hP hS (by rw [hG]) d_MD_craftPdu_213
                  ·
                    have hG := hG.trans (if_pos h_52)
                    refine lv_iload_n hx hb d_MD_craftPdu_202 rfl (lv_at hl 3 rfl) ?_
                    refine lv_iconst (v := 5) hx hb d_MD_craftPdu_203 (by decide) ?_
                    refine lv_icmp_ne (tgt := 213) hx hb d_MD_craftPdu_204 (by decide) (fun _ => ?_) (fun h_53 => absurd h_53 (h_3))
                    exact fl_vret hx hb hr hlocks hP hS (by rw [hG]) d_MD_craftPdu_213
                ·
                  have hG := hG.trans (if_pos h_51)
                  refine lv_aload_n hx hb d_MD_craftPdu_133 rfl (lv_at hl 4 rfl) ?_
                  refine gg_MD (k := 51) (v := .ref (ad 35)) hx hb hts hown hK hP  (hts _ (List.mem_cons_of_mem _ tw_832)) (by decide) rfl rfl d_MD_craftPdu_134 ?_
                  refine lv_iload hx hb d_MD_craftPdu_137 (lv_at hl 2 rfl) ?_
                  refine lv_bipush (v := 12) hx hb d_MD_craftPdu_139 (by decide) ?_
                  refine lv_aload_n hx hb d_MD_craftPdu_141 rfl (lv_at hl 4 rfl) ?_
                  refine gg_MD (k := 1) (v := .int (M.1 0 1)) hx hb hts hown hK hP  (hts _ (List.mem_cons_of_mem _ tw_782)) (by decide) rfl rfl d_MD_craftPdu_142 ?_
                  refine lv_imul hx hb d_MD_craftPdu_145 ?_
                  refine sg_AcraftIdle hx hb hK hi hP hS  (in_land _) d_MD_craftPdu_146 (fun H locs hP hS => ?_)
                  refine lv_iload_n hx hb d_MD_craftPdu_147 rfl (lv_at hl 3 rfl) ?_
                  refine lv_iconst (v := 4) hx hb d_MD_craftPdu_148 (by decide) ?_
                  refine lv_icmp_ne (tgt := 162) hx hb d_MD_craftPdu_149 (by decide) (fun h_54 => absurd (h_44) h_54) (fun _ => ?_)
                  refine lv_aload_n hx hb d_MD_craftPdu_152 rfl (lv_at hl 4 rfl) ?_
                  refine lv_iload hx hb d_MD_craftPdu_153 (lv_at hl 2 rfl) ?_
                  refine lv_iconst (v := 5) hx hb d_MD_craftPdu_155 (by decide) ?_
                  refine fl_callv (va_runV (As := [.int (((j_lshr x1 40) &&& 15).toInt32), .int 5]) (rest := []) ⟨hx, hb, hml, hown, hts⟩ (c_MD_finish l hi (fl_i (fl_i (fl_i M 25 ((((j_lshr x1 40) &&& 15).toInt32).toNatClampNeg) 1) 36 ((((j_lshr x1 40) &&& 15).toInt32).toNatClampNeg) 1) 35 ((((j_lshr x1 40) &&& 15).toInt32).toNatClampNeg) (12 * (M.1 0 1))) (((j_lshr x1 40) &&& 15).toInt32) 5 (in_land _)) (kv_MD_finish hts (hts _ (List.mem_cons_of_mem _ tw_1045)) ⟨Nat.le_of_ble_eq_true rfl, Nat.le_of_ble_eq_true rfl⟩) (fl_preV hK hSt hN hS hP (by decide) (kg_MD) rfl) rfl rfl hl.1 rfl (lv_room (Nat.le_of_ble_eq_true rfl)) d_MD_craftPdu_156 ⟨Nat.zero_le _, Nat.zero_le _⟩) hS (fun H locs hP hS => ?_)
                  refine lv_goto (tgt := 213) hx hb d_MD_craftPdu_159 (by decide) ?_
                  exact fl_vret hx hb hr hlocks hP hS (by rw [hG]) d_MD_craftPdu_213
      ·
        have hG := hG.trans (if_pos h_3)
        refine lv_aload_n hx hb d_MD_craftPdu_51 rfl (lv_at hl 4 rfl) ?_
        refine gg_MD (k := 41) (v := .ref (ad 25)) hx hb hts hown hK hP  (hts _ (List.mem_cons_of_mem _ tw_822)) (by decide) rfl rfl d_MD_craftPdu_52 ?_
        refine lv_iload hx hb d_MD_craftPdu_55 (lv_at hl 2 rfl) ?_
        refine ag_Astage (v := .int (M.1 25 ((((j_lshr x1 40) &&& 15).toInt32).toNatClampNeg))) hx hb hK hP  (in_land _) rfl d_MD_craftPdu_57 ?_
        refine lv_if_ne (tgt := 62) hx hb d_MD_craftPdu_58 (by decide) (fun h_55 => ?_) (fun h_55 => ?_)
        ·
          have hG := hG.trans (if_neg h_55)
          refine lv_aload_n hx hb d_MD_craftPdu_62 rfl (lv_at hl 4 rfl) ?_
          refine gg_MD (k := 41) (v := .ref (ad 25)) hx hb hts hown hK hP  (hts _ (List.mem_cons_of_mem _ tw_822)) (by decide) rfl rfl d_MD_craftPdu_63 ?_
          refine lv_iload hx hb d_MD_craftPdu_66 (lv_at hl 2 rfl) ?_
          refine lv_aload_n hx hb d_MD_craftPdu_68 rfl (lv_at hl 4 rfl) ?_
          refine gg_MD (k := 41) (v := .ref (ad 25)) hx hb hts hown hK hP  (hts _ (List.mem_cons_of_mem _ tw_822)) (by decide) rfl rfl d_MD_craftPdu_69 ?_
          refine lv_iload hx hb d_MD_craftPdu_72 (lv_at hl 2 rfl) ?_
          refine ag_Astage (v := .int (M.1 25 ((((j_lshr x1 40) &&& 15).toInt32).toNatClampNeg))) hx hb hK hP  (in_land _) rfl d_MD_craftPdu_74 ?_
          refine lv_if_ne (tgt := 82) hx hb d_MD_craftPdu_75 (by decide) (fun _ => ?_) (fun h_56 => absurd h_56 (h_55))
          refine lv_aload_n hx hb d_MD_craftPdu_82 rfl (lv_at hl 4 rfl) ?_
          refine gg_MD (k := 41) (v := .ref (ad 25)) hx hb hts hown hK hP  (hts _ (List.mem_cons_of_mem _ tw_822)) (by decide) rfl rfl d_MD_craftPdu_83 ?_
          refine lv_iload hx hb d_MD_craftPdu_86 (lv_at hl 2 rfl) ?_
          refine ag_Astage (v := .int (M.1 25 ((((j_lshr x1 40) &&& 15).toInt32).toNatClampNeg))) hx hb hK hP  (in_land _) rfl d_MD_craftPdu_88 ?_
          refine sg_Astage hx hb hK hi hP hS  (in_land _) d_MD_craftPdu_89 (fun H locs hP hS => ?_)
          refine lv_aload_n hx hb d_MD_craftPdu_90 rfl (lv_at hl 4 rfl) ?_
          refine gg_MD (k := 52) (v := .ref (ad 36)) hx hb hts hown hK hP  (hts _ (List.mem_cons_of_mem _ tw_833)) (by decide) rfl rfl d_MD_craftPdu_91 ?_
          refine lv_iload hx hb d_MD_craftPdu_94 (lv_at hl 2 rfl) ?_
          refine lv_aload_n hx hb d_MD_craftPdu_96 rfl (lv_at hl 4 rfl) ?_
          refine gg_MD (k := 52) (v := .ref (ad 36)) hx hb hts hown hK hP  (hts _ (List.mem_cons_of_mem _ tw_833)) (by decide) rfl rfl d_MD_craftPdu_97 ?_
          refine lv_iload hx hb d_MD_craftPdu_100 (lv_at hl 2 rfl) ?_
          refine ag_AoweGot (v := .int (M.1 36 ((((j_lshr x1 40) &&& 15).toInt32).toNatClampNeg))) hx hb hK hP  (in_land _) rfl d_MD_craftPdu_102 ?_
          refine lv_if_ne (tgt := 116) hx hb d_MD_craftPdu_103 (by decide) (fun h_57 => ?_) (fun h_57 => ?_)
          ·
            have hG := hG.trans (if_neg h_57)
            refine lv_iconst (v := 1) hx hb d_MD_craftPdu_116 (by decide) ?_
            refine lv_goto (tgt := 121) hx hb d_MD_craftPdu_117 (by decide) ?_
            refine sg_AoweGot hx hb hK hi hP hS  (rfl) (in_land _) d_MD_craftPdu_121 (fun H locs hP hS => ?_)
            refine lv_aload_n hx hb d_MD_craftPdu_122 rfl (lv_at hl 4 rfl) ?_
            refine gg_MD (k := 41) (v := .ref (ad 25)) hx hb hts hown hK hP  (hts _ (List.mem_cons_of_mem _ tw_822)) (by decide) rfl rfl d_MD_craftPdu_123 ?_
            refine lv_iload hx hb d_MD_craftPdu_126 (lv_at hl 2 rfl) ?_
            refine ag_Astage (v := .int ((fl_i M 25 ((((j_lshr x1 40) &&& 15).toInt32).toNatClampNeg) (M.1 25 ((((j_lshr x1 40) &&& 15).toInt32).toNatClampNeg))).1 25 ((((j_lshr x1 40) &&& 15).toInt32).toNatClampNeg))) hx hb hK hP  (in_land _) rfl d_MD_craftPdu_128 ?_
            refine lv_iconst (v := 1) hx hb d_MD_craftPdu_129 (by decide) ?_
            refine lv_icmp_ne (tgt := 191) hx hb d_MD_craftPdu_130 (by decide) (fun h_58 => ?_) (fun h_58 => ?_)
            ·
              have hG := hG.trans (if_neg h_58)
              refine lv_aload_n hx hb d_MD_craftPdu_191 rfl (lv_at hl 4 rfl) ?_
              refine gg_MD (k := 41) (v := .ref (ad 25)) hx hb hts hown hK hP  (hts _ (List.mem_cons_of_mem _ tw_822)) (by decide) rfl rfl d_MD_craftPdu_192 ?_
              refine lv_iload hx hb d_MD_craftPdu_195 (lv_at hl 2 rfl) ?_
              refine ag_Astage (v := .int ((fl_i M 25 ((((j_lshr x1 40) &&& 15).toInt32).toNatClampNeg) (M.1 25 ((((j_lshr x1 40) &&& 15).toInt32).toNatClampNeg))).1 25 ((((j_lshr x1 40) &&& 15).toInt32).toNatClampNeg))) hx hb hK hP  (in_land _) rfl d_MD_craftPdu_197 ?_
              refine lv_iconst (v := 2) hx hb d_MD_craftPdu_198 (by decide) ?_
              refine lv_icmp_ne (tgt := 213) hx hb d_MD_craftPdu_199 (by decide) (fun h_59 => ?_) (fun h_59 => ?_)
              ·
                have hG := hG.trans (if_neg h_59)
                exact fl_vret hx hb hr hlocks hP hS (by rw [hG]) d_MD_craftPdu_213
              ·
                have hG := hG.trans (if_pos h_59)
                refine lv_iload_n hx hb d_MD_craftPdu_202 rfl (lv_at hl 3 rfl) ?_
                refine lv_iconst (v := 5) hx hb d_MD_craftPdu_203 (by decide) ?_
                refine lv_icmp_ne (tgt := 213) hx hb d_MD_craftPdu_204 (by decide) (fun h_60 => absurd (h_3) h_60) (fun _ => ?_)
                refine lv_aload_n hx hb d_MD_craftPdu_207 rfl (lv_at hl 4 rfl) ?_
                refine lv_iload hx hb d_MD_craftPdu_208 (lv_at hl 2 rfl) ?_
                refine fl_callv (va_runV (As := [.int (((j_lshr x1 40) &&& 15).toInt32)]) (rest := []) ⟨hx, hb, hml, hown, hts⟩ (c_MD_close l hi (fl_i (fl_i M 25 ((((j_lshr x1 40) &&& 15).toInt32).toNatClampNeg) (M.1 25 ((((j_lshr x1 40) &&& 15).toInt32).toNatClampNeg))) 36 ((((j_lshr x1 40) &&& 15).toInt32).toNatClampNeg) 1) (((j_lshr x1 40) &&& 15).toInt32) (in_land _)) (kv_MD_close hts (hts _ (List.mem_cons_of_mem _ tw_1061)) ⟨Nat.le_of_ble_eq_true rfl, Nat.le_of_ble_eq_true rfl⟩) (fl_preV hK hSt hN hS hP (by decide) (kg_MD) rfl) rfl rfl hl.1 rfl (lv_room (Nat.le_of_ble_eq_true rfl)) d_MD_craftPdu_210 ⟨Nat.zero_le _, Nat.zero_le _⟩) hS (fun H locs hP hS => ?_)
                exact fl_vret hx hb hr hlocks hP hS (by rw [hG]) d_MD_craftPdu_213
            ·
              have hG := hG.trans (if_pos h_58)
              refine lv_aload_n hx hb d_MD_craftPdu_133 rfl (lv_at hl 4 rfl) ?_
              refine gg_MD (k := 51) (v := .ref (ad 35)) hx hb hts hown hK hP  (hts _ (List.mem_cons_of_mem _ tw_832)) (by decide) rfl rfl d_MD_craftPdu_134 ?_
              refine lv_iload hx hb d_MD_craftPdu_137 (lv_at hl 2 rfl) ?_
              refine lv_bipush (v := 12) hx hb d_MD_craftPdu_139 (by decide) ?_
              refine lv_aload_n hx hb d_MD_craftPdu_141 rfl (lv_at hl 4 rfl) ?_
              refine gg_MD (k := 1) (v := .int (M.1 0 1)) hx hb hts hown hK hP  (hts _ (List.mem_cons_of_mem _ tw_782)) (by decide) rfl rfl d_MD_craftPdu_142 ?_
              refine lv_imul hx hb d_MD_craftPdu_145 ?_
              refine sg_AcraftIdle hx hb hK hi hP hS  (in_land _) d_MD_craftPdu_146 (fun H locs hP hS => ?_)
              refine lv_iload_n hx hb d_MD_craftPdu_147 rfl (lv_at hl 3 rfl) ?_
              refine lv_iconst (v := 4) hx hb d_MD_craftPdu_148 (by decide) ?_
              refine lv_icmp_ne (tgt := 162) hx hb d_MD_craftPdu_149 (by decide) (fun _ => ?_) (fun h_61 => absurd h_61 (by rw [h_3]; decide))
              refine lv_iload_n hx hb d_MD_craftPdu_162 rfl (lv_at hl 3 rfl) ?_
              refine lv_iconst (v := 4) hx hb d_MD_craftPdu_163 (by decide) ?_
              refine lv_icmp_ge (tgt := 213) hx hb d_MD_craftPdu_164 (by decide) (fun _ => ?_) (fun h_62 => absurd (by rw [h_3]; decide) h_62)
              exact fl_vret hx hb hr hlocks hP hS (by rw [hG]) d_MD_craftPdu_213
          ·
            have hG := hG.trans (if_pos h_57)
            refine lv_iload_n hx hb d_MD_craftPdu_106 rfl (lv_at hl 3 rfl) ?_
            refine lv_iconst (v := 3) hx hb d_MD_craftPdu_107 (by decide) ?_
            refine lv_icmp_eq (tgt := 116) hx hb d_MD_craftPdu_108 (by decide) (fun h_63 => absurd h_63 (by rw [h_3]; decide)) (fun _ => ?_)
            refine lv_iload_n hx hb d_MD_craftPdu_111 rfl (lv_at hl 3 rfl) ?_
            refine lv_iconst (v := 4) hx hb d_MD_craftPdu_112 (by decide) ?_
            refine lv_icmp_ne (tgt := 120) hx hb d_MD_craftPdu_113 (by decide) (fun _ => ?_) (fun h_64 => absurd h_64 (by rw [h_3]; decide))
            refine lv_iconst (v := 0) hx hb d_MD_craftPdu_120 (by decide) ?_
            refine sg_AoweGot hx hb hK hi hP hS  (rfl) (in_land _) d_MD_craftPdu_121 (fun H locs hP hS => ?_)
            refine lv_aload_n hx hb d_MD_craftPdu_122 rfl (lv_at hl 4 rfl) ?_
            refine gg_MD (k := 41) (v := .ref (ad 25)) hx hb hts hown hK hP  (hts _ (List.mem_cons_of_mem _ tw_822)) (by decide) rfl rfl d_MD_craftPdu_123 ?_
            refine lv_iload hx hb d_MD_craftPdu_126 (lv_at hl 2 rfl) ?_
            refine ag_Astage (v := .int ((fl_i M 25 ((((j_lshr x1 40) &&& 15).toInt32).toNatClampNeg) (M.1 25 ((((j_lshr x1 40) &&& 15).toInt32).toNatClampNeg))).1 25 ((((j_lshr x1 40) &&& 15).toInt32).toNatClampNeg))) hx hb hK hP  (in_land _) rfl d_MD_craftPdu_128 ?_
            refine lv_iconst (v := 1) hx hb d_MD_craftPdu_129 (by decide) ?_
            refine lv_icmp_ne (tgt := 191) hx hb d_MD_craftPdu_130 (by decide) (fun h_65 => ?_) (fun h_65 => ?_)
            ·
              have hG := hG.trans (if_neg h_65)
              refine lv_aload_n hx hb d_MD_craftPdu_191 rfl (lv_at hl 4 rfl) ?_
              refine gg_MD (k := 41) (v := .ref (ad 25)) hx hb hts hown hK hP  (hts _ (List.mem_cons_of_mem _ tw_822)) (by decide) rfl rfl d_MD_craftPdu_192 ?_
              refine lv_iload hx hb d_MD_craftPdu_195 (lv_at hl 2 rfl) ?_
              refine ag_Astage (v := .int ((fl_i M 25 ((((j_lshr x1 40) &&& 15).toInt32).toNatClampNeg) (M.1 25 ((((j_lshr x1 40) &&& 15).toInt32).toNatClampNeg))).1 25 ((((j_lshr x1 40) &&& 15).toInt32).toNatClampNeg))) hx hb hK hP  (in_land _) rfl d_MD_craftPdu_197 ?_
              refine lv_iconst (v := 2) hx hb d_MD_craftPdu_198 (by decide) ?_
              refine lv_icmp_ne (tgt := 213) hx hb d_MD_craftPdu_199 (by decide) (fun h_66 => ?_) (fun h_66 => ?_)
              ·
                have hG := hG.trans (if_neg h_66)
                exact fl_vret hx hb hr hlocks hP hS (by rw [hG]) d_MD_craftPdu_213
              ·
                have hG := hG.trans (if_pos h_66)
                refine lv_iload_n hx hb d_MD_craftPdu_202 rfl (lv_at hl 3 rfl) ?_
                refine lv_iconst (v := 5) hx hb d_MD_craftPdu_203 (by decide) ?_
                refine lv_icmp_ne (tgt := 213) hx hb d_MD_craftPdu_204 (by decide) (fun h_67 => absurd (h_3) h_67) (fun _ => ?_)
                refine lv_aload_n hx hb d_MD_craftPdu_207 rfl (lv_at hl 4 rfl) ?_
                refine lv_iload hx hb d_MD_craftPdu_208 (lv_at hl 2 rfl) ?_
                refine fl_callv (va_runV (As := [.int (((j_lshr x1 40) &&& 15).toInt32)]) (rest := []) ⟨hx, hb, hml, hown, hts⟩ (c_MD_close l hi (fl_i (fl_i M 25 ((((j_lshr x1 40) &&& 15).toInt32).toNatClampNeg) (M.1 25 ((((j_lshr x1 40) &&& 15).toInt32).toNatClampNeg))) 36 ((((j_lshr x1 40) &&& 15).toInt32).toNatClampNeg) 0) (((j_lshr x1 40) &&& 15).toInt32) (in_land _)) (kv_MD_close hts (hts _ (List.mem_cons_of_mem _ tw_1061)) ⟨Nat.le_of_ble_eq_true rfl, Nat.le_of_ble_eq_true rfl⟩) (fl_preV hK hSt hN hS hP (by decide) (kg_MD) rfl) rfl rfl hl.1 rfl (lv_room (Nat.le_of_ble_eq_true rfl)) d_MD_craftPdu_210 ⟨Nat.zero_le _, Nat.zero_le _⟩) hS (fun H locs hP hS => ?_)
                exact fl_vret hx hb hr hlocks hP hS (by rw [hG]) d_MD_craftPdu_213
            ·
              have hG := hG.trans (if_pos h_65)
              refine lv_aload_n hx hb d_MD_craftPdu_133 rfl (lv_at hl 4 rfl) ?_
              refine gg_MD (k := 51) (v := .ref (ad 35)) hx hb hts hown hK hP  (hts _ (List.mem_cons_of_mem _ tw_832)) (by decide) rfl rfl d_MD_craftPdu_134 ?_
              refine lv_iload hx hb d_MD_craftPdu_137 (lv_at hl 2 rfl) ?_
              refine lv_bipush (v := 12) hx hb d_MD_craftPdu_139 (by decide) ?_
              refine lv_aload_n hx hb d_MD_craftPdu_141 rfl (lv_at hl 4 rfl) ?_
              refine gg_MD (k := 1) (v := .int (M.1 0 1)) hx hb hts hown hK hP  (hts _ (List.mem_cons_of_mem _ tw_782)) (by decide) rfl rfl d_MD_craftPdu_142 ?_
              refine lv_imul hx hb d_MD_craftPdu_145 ?_
              refine sg_AcraftIdle hx hb hK hi hP hS  (in_land _) d_MD_craftPdu_146 (fun H locs hP hS => ?_)
              refine lv_iload_n hx hb d_MD_craftPdu_147 rfl (lv_at hl 3 rfl) ?_
              refine lv_iconst (v := 4) hx hb d_MD_craftPdu_148 (by decide) ?_
              refine lv_icmp_ne (tgt := 162) hx hb d_MD_craftPdu_149 (by decide) (fun _ => ?_) (fun h_68 => absurd h_68 (by rw [h_3]; decide))
              refine lv_iload_n hx hb d_MD_craftPdu_162 rfl (lv_at hl 3 rfl) ?_
              refine lv_iconst (v := 4) hx hb d_MD_craftPdu_163 (by decide) ?_
              refine lv_icmp_ge (tgt := 213) hx hb d_MD_craftPdu_164 (by decide) (fun _ => ?_) (fun h_69 => absurd (by rw [h_3]; decide) h_69)
              exact fl_vret hx hb hr hlocks hP hS (by rw [hG]) d_MD_craftPdu_213
        ·
          have hG := hG.trans (if_pos h_55)
          exact fl_vret hx hb hr hlocks hP hS (by rw [hG]) d_MD_craftPdu_61
theorem hd_MD_craftPdu : y_MD_craftPdu.cls ≠ "java/lang/invoke/MethodHandle" ∧ y_MD_craftPdu.cls ≠ "java/lang/invoke/VarHandle" ∧ (parseMethodDescriptor y_MD_craftPdu.desc).map (fun d => d.parameters.length) = some 1 := by decide +kernel
theorem kv_MD_craftPdu {R : Room} {s : State} {args : Array Value} {c0 : Cond} {own : String} {index : Nat} (hts : ∀ w ∈ c0 :: gw, w.before args s = true) (hl : (Cond.methodLink own index y_MD_craftPdu).before args s = true) (hR : 2 + 1 ≤ R.frames ∧ 8 + (7 + 11) + 48 ≤ R.locals) : CallW R s args own "FarLinkModel" index y_MD_craftPdu b_MD_craftPdu 7 none w_MD_craftPdu ({ frames := 2, cells := 0, slots := 0, locals := 48 } : Room) 0 0 1 := ⟨callB_of 1 hts (gw_in tw_1043) rfl rfl rfl (hts _ (List.mem_cons_of_mem _ tw_10)) hl hd_MD_craftPdu hR, hts _ (List.mem_cons_of_mem _ tw_1042), hts _ (List.mem_cons_of_mem _ ps_MD_craftPdu)⟩
