theorem fl_S_31 : pm_Fl "BayStowage$Ship" 31 1 0 := ⟨N1, T1, 13, rfl, by decide, hin1, Or.inl (pm_in1 (j := 31) rfl rfl)⟩
theorem fp_S_31 : pm_Fp "BayStowage$Ship" 31 1 0 (.int) false := ⟨N1, T1, 13, Y1, rfl, by decide, hin1, Or.inl (pm_in1 (j := 31) rfl rfl), tyok1, nmok1, rfl, tyok1 0 (by decide), fun h => nomatch h⟩
theorem fl_P_59 : pm_Fl "BayStowage$Planner" 59 1 0 := ⟨N1, T1, 13, rfl, by decide, hin1, Or.inr ⟨"BayStowage", pm_nn1 (j := 32) rfl rfl⟩⟩
theorem fp_P_59 : pm_Fp "BayStowage$Planner" 59 1 0 (.int) false := ⟨N1, T1, 13, Y1, rfl, by decide, hin1, Or.inr ⟨rfl, "BayStowage", pm_nn1 (j := 32) rfl rfl⟩, tyok1, nmok1, rfl, tyok1 0 (by decide), fun h => nomatch h⟩
theorem fl_H_92 : pm_Fl "BayStowage$Hold" 92 1 0 := ⟨N1, T1, 13, rfl, by decide, hin1, Or.inr ⟨"BayStowage", pm_nn1 (j := 33) rfl rfl⟩⟩
theorem fp_H_92 : pm_Fp "BayStowage$Hold" 92 1 0 (.int) false := ⟨N1, T1, 13, Y1, rfl, by decide, hin1, Or.inr ⟨rfl, "BayStowage", pm_nn1 (j := 33) rfl rfl⟩, tyok1, nmok1, rfl, tyok1 0 (by decide), fun h => nomatch h⟩
theorem fl_S_35 : pm_Fl "BayStowage$Ship" 35 1 1 := ⟨N1, T1, 13, rfl, by decide, hin1, Or.inl (pm_in1 (j := 34) rfl rfl)⟩
theorem fp_S_35 : pm_Fp "BayStowage$Ship" 35 1 1 (.int) false := ⟨N1, T1, 13, Y1, rfl, by decide, hin1, Or.inl (pm_in1 (j := 34) rfl rfl), tyok1, nmok1, rfl, tyok1 1 (by decide), fun h => nomatch h⟩
theorem fl_H_41 : pm_Fl "BayStowage$Hold" 41 1 1 := ⟨N1, T1, 13, rfl, by decide, hin1, Or.inr ⟨"BayStowage", pm_nn1 (j := 35) rfl rfl⟩⟩
theorem fp_H_41 : pm_Fp "BayStowage$Hold" 41 1 1 (.int) false := ⟨N1, T1, 13, Y1, rfl, by decide, hin1, Or.inr ⟨rfl, "BayStowage", pm_nn1 (j := 35) rfl rfl⟩, tyok1, nmok1, rfl, tyok1 1 (by decide), fun h => nomatch h⟩
theorem fl_B_134 : pm_Fl "BayStowage" 134 1 1 := ⟨N1, T1, 13, rfl, by decide, hin1, Or.inr ⟨"BayStowage", pm_nn1 (j := 36) rfl rfl⟩⟩
theorem fp_B_134 : pm_Fp "BayStowage" 134 1 1 (.int) false := ⟨N1, T1, 13, Y1, rfl, by decide, hin1, Or.inr ⟨rfl, "BayStowage", pm_nn1 (j := 36) rfl rfl⟩, tyok1, nmok1, rfl, tyok1 1 (by decide), fun h => nomatch h⟩
theorem fl_P_42 : pm_Fl "BayStowage$Planner" 42 1 2 := ⟨N1, T1, 13, rfl, by decide, hin1, Or.inr ⟨"BayStowage", pm_nn1 (j := 37) rfl rfl⟩⟩
theorem fp_P_42 : pm_Fp "BayStowage$Planner" 42 1 2 (.int) false := ⟨N1, T1, 13, Y1, rfl, by decide, hin1, Or.inr ⟨rfl, "BayStowage", pm_nn1 (j := 37) rfl rfl⟩, tyok1, nmok1, rfl, tyok1 2 (by decide), fun h => nomatch h⟩
theorem fl_S_38 : pm_Fl "BayStowage$Ship" 38 1 2 := ⟨N1, T1, 13, rfl, by decide, hin1, Or.inl (pm_in1 (j := 38) rfl rfl)⟩
theorem fp_S_38 : pm_Fp "BayStowage$Ship" 38 1 2 (.int) false := ⟨N1, T1, 13, Y1, rfl, by decide, hin1, Or.inl (pm_in1 (j := 38) rfl rfl), tyok1, nmok1, rfl, tyok1 2 (by decide), fun h => nomatch h⟩
theorem fl_B_153 : pm_Fl "BayStowage" 153 1 2 := ⟨N1, T1, 13, rfl, by decide, hin1, Or.inr ⟨"BayStowage", pm_nn1 (j := 39) rfl rfl⟩⟩
theorem fp_B_153 : pm_Fp "BayStowage" 153 1 2 (.int) false := ⟨N1, T1, 13, Y1, rfl, by decide, hin1, Or.inr ⟨rfl, "BayStowage", pm_nn1 (j := 39) rfl rfl⟩, tyok1, nmok1, rfl, tyok1 2 (by decide), fun h => nomatch h⟩
theorem fl_S_41 : pm_Fl "BayStowage$Ship" 41 1 3 := ⟨N1, T1, 13, rfl, by decide, hin1, Or.inl (pm_in1 (j := 40) rfl rfl)⟩
theorem fp_S_41 : pm_Fp "BayStowage$Ship" 41 1 3 (.int) false := ⟨N1, T1, 13, Y1, rfl, by decide, hin1, Or.inl (pm_in1 (j := 40) rfl rfl), tyok1, nmok1, rfl, tyok1 3 (by decide), fun h => nomatch h⟩
theorem fl_H_74 : pm_Fl "BayStowage$Hold" 74 1 3 := ⟨N1, T1, 13, rfl, by decide, hin1, Or.inr ⟨"BayStowage", pm_nn1 (j := 41) rfl rfl⟩⟩
theorem fp_H_74 : pm_Fp "BayStowage$Hold" 74 1 3 (.int) false := ⟨N1, T1, 13, Y1, rfl, by decide, hin1, Or.inr ⟨rfl, "BayStowage", pm_nn1 (j := 41) rfl rfl⟩, tyok1, nmok1, rfl, tyok1 3 (by decide), fun h => nomatch h⟩
theorem fl_S_44 : pm_Fl "BayStowage$Ship" 44 1 4 := ⟨N1, T1, 13, rfl, by decide, hin1, Or.inl (pm_in1 (j := 42) rfl rfl)⟩
theorem fp_S_44 : pm_Fp "BayStowage$Ship" 44 1 4 (.int) false := ⟨N1, T1, 13, Y1, rfl, by decide, hin1, Or.inl (pm_in1 (j := 42) rfl rfl), tyok1, nmok1, rfl, tyok1 4 (by decide), fun h => nomatch h⟩
theorem fl_H_103 : pm_Fl "BayStowage$Hold" 103 1 4 := ⟨N1, T1, 13, rfl, by decide, hin1, Or.inr ⟨"BayStowage", pm_nn1 (j := 43) rfl rfl⟩⟩
theorem fp_H_103 : pm_Fp "BayStowage$Hold" 103 1 4 (.int) false := ⟨N1, T1, 13, Y1, rfl, by decide, hin1, Or.inr ⟨rfl, "BayStowage", pm_nn1 (j := 43) rfl rfl⟩, tyok1, nmok1, rfl, tyok1 4 (by decide), fun h => nomatch h⟩
theorem fl_S_47 : pm_Fl "BayStowage$Ship" 47 1 5 := ⟨N1, T1, 13, rfl, by decide, hin1, Or.inl (pm_in1 (j := 44) rfl rfl)⟩
theorem fp_S_47 : pm_Fp "BayStowage$Ship" 47 1 5 (.int) false := ⟨N1, T1, 13, Y1, rfl, by decide, hin1, Or.inl (pm_in1 (j := 44) rfl rfl), tyok1, nmok1, rfl, tyok1 5 (by decide), fun h => nomatch h⟩
theorem fl_H_112 : pm_Fl "BayStowage$Hold" 112 1 5 := ⟨N1, T1, 13, rfl, by decide, hin1, Or.inr ⟨"BayStowage", pm_nn1 (j := 45) rfl rfl⟩⟩
theorem fp_H_112 : pm_Fp "BayStowage$Hold" 112 1 5 (.int) false := ⟨N1, T1, 13, Y1, rfl, by decide, hin1, Or.inr ⟨rfl, "BayStowage", pm_nn1 (j := 45) rfl rfl⟩, tyok1, nmok1, rfl, tyok1 5 (by decide), fun h => nomatch h⟩
theorem fl_S_9 : pm_Fl "BayStowage$Ship" 9 1 6 := ⟨N1, T1, 13, rfl, by decide, hin1, Or.inl (pm_in1 (j := 46) rfl rfl)⟩
theorem fp_S_9 : pm_Fp "BayStowage$Ship" 9 1 6 (.array .boolean) true := ⟨N1, T1, 13, Y1, rfl, by decide, hin1, Or.inl (pm_in1 (j := 46) rfl rfl), tyok1, nmok1, rfl, tyok1 6 (by decide), fun _ => rfl⟩
theorem fl_B_61 : pm_Fl "BayStowage" 61 1 6 := ⟨N1, T1, 13, rfl, by decide, hin1, Or.inr ⟨"BayStowage", pm_nn1 (j := 47) rfl rfl⟩⟩
theorem fl_H_121 : pm_Fl "BayStowage$Hold" 121 1 6 := ⟨N1, T1, 13, rfl, by decide, hin1, Or.inr ⟨"BayStowage", pm_nn1 (j := 48) rfl rfl⟩⟩
theorem fl_S_50 : pm_Fl "BayStowage$Ship" 50 1 7 := ⟨N1, T1, 13, rfl, by decide, hin1, Or.inl (pm_in1 (j := 49) rfl rfl)⟩
theorem fp_S_50 : pm_Fp "BayStowage$Ship" 50 1 7 (.int) false := ⟨N1, T1, 13, Y1, rfl, by decide, hin1, Or.inl (pm_in1 (j := 49) rfl rfl), tyok1, nmok1, rfl, tyok1 7 (by decide), fun h => nomatch h⟩
theorem fl_B_68 : pm_Fl "BayStowage" 68 1 7 := ⟨N1, T1, 13, rfl, by decide, hin1, Or.inr ⟨"BayStowage", pm_nn1 (j := 50) rfl rfl⟩⟩
theorem fp_B_68 : pm_Fp "BayStowage" 68 1 7 (.int) false := ⟨N1, T1, 13, Y1, rfl, by decide, hin1, Or.inr ⟨rfl, "BayStowage", pm_nn1 (j := 50) rfl rfl⟩, tyok1, nmok1, rfl, tyok1 7 (by decide), fun h => nomatch h⟩
theorem fl_S_15 : pm_Fl "BayStowage$Ship" 15 1 8 := ⟨N1, T1, 13, rfl, by decide, hin1, Or.inl (pm_in1 (j := 51) rfl rfl)⟩
theorem fp_S_15 : pm_Fp "BayStowage$Ship" 15 1 8 (.array .int) true := ⟨N1, T1, 13, Y1, rfl, by decide, hin1, Or.inl (pm_in1 (j := 51) rfl rfl), tyok1, nmok1, rfl, tyok1 8 (by decide), fun _ => rfl⟩
theorem fl_B_173 : pm_Fl "BayStowage" 173 1 8 := ⟨N1, T1, 13, rfl, by decide, hin1, Or.inr ⟨"BayStowage", pm_nn1 (j := 52) rfl rfl⟩⟩
theorem fl_S_19 : pm_Fl "BayStowage$Ship" 19 1 9 := ⟨N1, T1, 13, rfl, by decide, hin1, Or.inl (pm_in1 (j := 53) rfl rfl)⟩
theorem fp_S_19 : pm_Fp "BayStowage$Ship" 19 1 9 (.array .int) true := ⟨N1, T1, 13, Y1, rfl, by decide, hin1, Or.inl (pm_in1 (j := 53) rfl rfl), tyok1, nmok1, rfl, tyok1 9 (by decide), fun _ => rfl⟩
theorem fl_B_176 : pm_Fl "BayStowage" 176 1 9 := ⟨N1, T1, 13, rfl, by decide, hin1, Or.inr ⟨"BayStowage", pm_nn1 (j := 54) rfl rfl⟩⟩
theorem fl_S_22 : pm_Fl "BayStowage$Ship" 22 1 10 := ⟨N1, T1, 13, rfl, by decide, hin1, Or.inl (pm_in1 (j := 55) rfl rfl)⟩
theorem fp_S_22 : pm_Fp "BayStowage$Ship" 22 1 10 (.array .int) true := ⟨N1, T1, 13, Y1, rfl, by decide, hin1, Or.inl (pm_in1 (j := 55) rfl rfl), tyok1, nmok1, rfl, tyok1 10 (by decide), fun _ => rfl⟩
theorem fl_H_44 : pm_Fl "BayStowage$Hold" 44 1 10 := ⟨N1, T1, 13, rfl, by decide, hin1, Or.inr ⟨"BayStowage", pm_nn1 (j := 56) rfl rfl⟩⟩
theorem fl_S_25 : pm_Fl "BayStowage$Ship" 25 1 11 := ⟨N1, T1, 13, rfl, by decide, hin1, Or.inl (pm_in1 (j := 57) rfl rfl)⟩
theorem fp_S_25 : pm_Fp "BayStowage$Ship" 25 1 11 (.array .int) true := ⟨N1, T1, 13, Y1, rfl, by decide, hin1, Or.inl (pm_in1 (j := 57) rfl rfl), tyok1, nmok1, rfl, tyok1 11 (by decide), fun _ => rfl⟩
theorem fl_H_125 : pm_Fl "BayStowage$Hold" 125 1 11 := ⟨N1, T1, 13, rfl, by decide, hin1, Or.inr ⟨"BayStowage", pm_nn1 (j := 58) rfl rfl⟩⟩
theorem fl_S_28 : pm_Fl "BayStowage$Ship" 28 1 12 := ⟨N1, T1, 13, rfl, by decide, hin1, Or.inl (pm_in1 (j := 59) rfl rfl)⟩
theorem fp_S_28 : pm_Fp "BayStowage$Ship" 28 1 12 (.array .boolean) true := ⟨N1, T1, 13, Y1, rfl, by decide, hin1, Or.inl (pm_in1 (j := 59) rfl rfl), tyok1, nmok1, rfl, tyok1 12 (by decide), fun _ => rfl⟩
theorem fl_B_82 : pm_Fl "BayStowage" 82 1 12 := ⟨N1, T1, 13, rfl, by decide, hin1, Or.inr ⟨"BayStowage", pm_nn1 (j := 60) rfl rfl⟩⟩
theorem fl_H_21 : pm_Fl "BayStowage$Hold" 21 2 0 := ⟨N2, T2, 5, rfl, by decide, hin2, Or.inl (pm_in1 (j := 103) rfl rfl)⟩
theorem fp_H_21 : pm_Fp "BayStowage$Hold" 21 2 0 (.object "BayStowage$Ship") true := ⟨N2, T2, 5, Y2, rfl, by decide, hin2, Or.inl (pm_in1 (j := 103) rfl rfl), tyok2, nmok2, rfl, tyok2 0 (by decide), fun _ => rfl⟩
theorem fl_H_9 : pm_Fl "BayStowage$Hold" 9 2 1 := ⟨N2, T2, 5, rfl, by decide, hin2, Or.inl (pm_in1 (j := 104) rfl rfl)⟩
theorem fp_H_9 : pm_Fp "BayStowage$Hold" 9 2 1 (.array .int) true := ⟨N2, T2, 5, Y2, rfl, by decide, hin2, Or.inl (pm_in1 (j := 104) rfl rfl), tyok2, nmok2, rfl, tyok2 1 (by decide), fun _ => rfl⟩
theorem fl_C_11 : pm_Fl "BayStowage$Code" 11 2 1 := ⟨N2, T2, 5, rfl, by decide, hin2, Or.inr ⟨"BayStowage", pm_nn1 (j := 105) rfl rfl⟩⟩
theorem fl_H_15 : pm_Fl "BayStowage$Hold" 15 2 2 := ⟨N2, T2, 5, rfl, by decide, hin2, Or.inl (pm_in1 (j := 106) rfl rfl)⟩
theorem fp_H_15 : pm_Fp "BayStowage$Hold" 15 2 2 (.array .int) true := ⟨N2, T2, 5, Y2, rfl, by decide, hin2, Or.inl (pm_in1 (j := 106) rfl rfl), tyok2, nmok2, rfl, tyok2 2 (by decide), fun _ => rfl⟩
theorem fl_H_18 : pm_Fl "BayStowage$Hold" 18 2 3 := ⟨N2, T2, 5, rfl, by decide, hin2, Or.inl (pm_in1 (j := 107) rfl rfl)⟩
theorem fp_H_18 : pm_Fp "BayStowage$Hold" 18 2 3 (.array .int) true := ⟨N2, T2, 5, Y2, rfl, by decide, hin2, Or.inl (pm_in1 (j := 107) rfl rfl), tyok2, nmok2, rfl, tyok2 3 (by decide), fun _ => rfl⟩
theorem fl_B_147 : pm_Fl "BayStowage" 147 2 3 := ⟨N2, T2, 5, rfl, by decide, hin2, Or.inr ⟨"BayStowage", pm_nn1 (j := 108) rfl rfl⟩⟩
theorem fl_H_31 : pm_Fl "BayStowage$Hold" 31 2 4 := ⟨N2, T2, 5, rfl, by decide, hin2, Or.inl (pm_in1 (j := 109) rfl rfl)⟩
theorem fp_H_31 : pm_Fp "BayStowage$Hold" 31 2 4 (.int) false := ⟨N2, T2, 5, Y2, rfl, by decide, hin2, Or.inl (pm_in1 (j := 109) rfl rfl), tyok2, nmok2, rfl, tyok2 4 (by decide), fun h => nomatch h⟩
theorem fl_B_141 : pm_Fl "BayStowage" 141 2 4 := ⟨N2, T2, 5, rfl, by decide, hin2, Or.inr ⟨"BayStowage", pm_nn1 (j := 110) rfl rfl⟩⟩
theorem fp_B_141 : pm_Fp "BayStowage" 141 2 4 (.int) false := ⟨N2, T2, 5, Y2, rfl, by decide, hin2, Or.inr ⟨rfl, "BayStowage", pm_nn1 (j := 110) rfl rfl⟩, tyok2, nmok2, rfl, tyok2 4 (by decide), fun h => nomatch h⟩
theorem fl_T_24 : pm_Fl "BayStowage$Script" 24 3 0 := ⟨N3, T3, 5, rfl, by decide, hin3, Or.inl (pm_in1 (j := 128) rfl rfl)⟩
theorem fp_T_24 : pm_Fp "BayStowage$Script" 24 3 0 (.int) false := ⟨N3, T3, 5, Y3, rfl, by decide, hin3, Or.inl (pm_in1 (j := 128) rfl rfl), tyok3, nmok3, rfl, tyok3 0 (by decide), fun h => nomatch h⟩
theorem fl_B_101 : pm_Fl "BayStowage" 101 3 0 := ⟨N3, T3, 5, rfl, by decide, hin3, Or.inr ⟨"BayStowage", pm_nn1 (j := 129) rfl rfl⟩⟩
theorem fp_B_101 : pm_Fp "BayStowage" 101 3 0 (.int) false := ⟨N3, T3, 5, Y3, rfl, by decide, hin3, Or.inr ⟨rfl, "BayStowage", pm_nn1 (j := 129) rfl rfl⟩, tyok3, nmok3, rfl, tyok3 0 (by decide), fun h => nomatch h⟩
theorem fl_T_11 : pm_Fl "BayStowage$Script" 11 3 1 := ⟨N3, T3, 5, rfl, by decide, hin3, Or.inl (pm_in1 (j := 130) rfl rfl)⟩
theorem fp_T_11 : pm_Fp "BayStowage$Script" 11 3 1 (.array .int) true := ⟨N3, T3, 5, Y3, rfl, by decide, hin3, Or.inl (pm_in1 (j := 130) rfl rfl), tyok3, nmok3, rfl, tyok3 1 (by decide), fun _ => rfl⟩
theorem fl_H_47 : pm_Fl "BayStowage$Hold" 47 3 1 := ⟨N3, T3, 5, rfl, by decide, hin3, Or.inr ⟨"BayStowage", pm_nn1 (j := 131) rfl rfl⟩⟩
theorem fl_B_108 : pm_Fl "BayStowage" 108 3 1 := ⟨N3, T3, 5, rfl, by decide, hin3, Or.inr ⟨"BayStowage", pm_nn1 (j := 132) rfl rfl⟩⟩
theorem fl_T_15 : pm_Fl "BayStowage$Script" 15 3 2 := ⟨N3, T3, 5, rfl, by decide, hin3, Or.inl (pm_in1 (j := 133) rfl rfl)⟩
theorem fp_T_15 : pm_Fp "BayStowage$Script" 15 3 2 (.array .int) true := ⟨N3, T3, 5, Y3, rfl, by decide, hin3, Or.inl (pm_in1 (j := 133) rfl rfl), tyok3, nmok3, rfl, tyok3 2 (by decide), fun _ => rfl⟩
theorem fl_B_112 : pm_Fl "BayStowage" 112 3 2 := ⟨N3, T3, 5, rfl, by decide, hin3, Or.inr ⟨"BayStowage", pm_nn1 (j := 134) rfl rfl⟩⟩
theorem fl_T_18 : pm_Fl "BayStowage$Script" 18 3 3 := ⟨N3, T3, 5, rfl, by decide, hin3, Or.inl (pm_in1 (j := 135) rfl rfl)⟩
theorem fp_T_18 : pm_Fp "BayStowage$Script" 18 3 3 (.array .int) true := ⟨N3, T3, 5, Y3, rfl, by decide, hin3, Or.inl (pm_in1 (j := 135) rfl rfl), tyok3, nmok3, rfl, tyok3 3 (by decide), fun _ => rfl⟩
theorem fl_H_62 : pm_Fl "BayStowage$Hold" 62 3 3 := ⟨N3, T3, 5, rfl, by decide, hin3, Or.inr ⟨"BayStowage", pm_nn1 (j := 136) rfl rfl⟩⟩
theorem fl_B_115 : pm_Fl "BayStowage" 115 3 3 := ⟨N3, T3, 5, rfl, by decide, hin3, Or.inr ⟨"BayStowage", pm_nn1 (j := 137) rfl rfl⟩⟩
theorem fl_T_21 : pm_Fl "BayStowage$Script" 21 3 4 := ⟨N3, T3, 5, rfl, by decide, hin3, Or.inl (pm_in1 (j := 138) rfl rfl)⟩
theorem fp_T_21 : pm_Fp "BayStowage$Script" 21 3 4 (.array .int) true := ⟨N3, T3, 5, Y3, rfl, by decide, hin3, Or.inl (pm_in1 (j := 138) rfl rfl), tyok3, nmok3, rfl, tyok3 4 (by decide), fun _ => rfl⟩
theorem fl_H_55 : pm_Fl "BayStowage$Hold" 55 3 4 := ⟨N3, T3, 5, rfl, by decide, hin3, Or.inr ⟨"BayStowage", pm_nn1 (j := 139) rfl rfl⟩⟩
theorem fl_B_118 : pm_Fl "BayStowage" 118 3 4 := ⟨N3, T3, 5, rfl, by decide, hin3, Or.inr ⟨"BayStowage", pm_nn1 (j := 140) rfl rfl⟩⟩
theorem fl_P_27 : pm_Fl "BayStowage$Planner" 27 4 0 := ⟨N4, T4, 8, rfl, by decide, hin4, Or.inl (pm_in1 (j := 160) rfl rfl)⟩
theorem fp_P_27 : pm_Fp "BayStowage$Planner" 27 4 0 (.object "BayStowage$Ship") true := ⟨N4, T4, 8, Y4, rfl, by decide, hin4, Or.inl (pm_in1 (j := 160) rfl rfl), tyok4, nmok4, rfl, tyok4 0 (by decide), fun _ => rfl⟩
theorem fl_P_36 : pm_Fl "BayStowage$Planner" 36 4 1 := ⟨N4, T4, 8, rfl, by decide, hin4, Or.inl (pm_in1 (j := 161) rfl rfl)⟩
theorem fp_P_36 : pm_Fp "BayStowage$Planner" 36 4 1 (.object "BayStowage$Hold") true := ⟨N4, T4, 8, Y4, rfl, by decide, hin4, Or.inl (pm_in1 (j := 161) rfl rfl), tyok4, nmok4, rfl, tyok4 1 (by decide), fun _ => rfl⟩
theorem fl_P_11 : pm_Fl "BayStowage$Planner" 11 4 2 := ⟨N4, T4, 8, rfl, by decide, hin4, Or.inl (pm_in1 (j := 162) rfl rfl)⟩
theorem fp_P_11 : pm_Fp "BayStowage$Planner" 11 4 2 (.array .int) true := ⟨N4, T4, 8, Y4, rfl, by decide, hin4, Or.inl (pm_in1 (j := 162) rfl rfl), tyok4, nmok4, rfl, tyok4 2 (by decide), fun _ => rfl⟩
theorem fl_P_15 : pm_Fl "BayStowage$Planner" 15 4 3 := ⟨N4, T4, 8, rfl, by decide, hin4, Or.inl (pm_in1 (j := 163) rfl rfl)⟩
theorem fp_P_15 : pm_Fp "BayStowage$Planner" 15 4 3 (.array .int) true := ⟨N4, T4, 8, Y4, rfl, by decide, hin4, Or.inl (pm_in1 (j := 163) rfl rfl), tyok4, nmok4, rfl, tyok4 3 (by decide), fun _ => rfl⟩
theorem fl_P_79 : pm_Fl "BayStowage$Planner" 79 4 4 := ⟨N4, T4, 8, rfl, by decide, hin4, Or.inl (pm_in1 (j := 164) rfl rfl)⟩
theorem fp_P_79 : pm_Fp "BayStowage$Planner" 79 4 4 (.int) false := ⟨N4, T4, 8, Y4, rfl, by decide, hin4, Or.inl (pm_in1 (j := 164) rfl rfl), tyok4, nmok4, rfl, tyok4 4 (by decide), fun h => nomatch h⟩
theorem fl_P_18 : pm_Fl "BayStowage$Planner" 18 4 5 := ⟨N4, T4, 8, rfl, by decide, hin4, Or.inl (pm_in1 (j := 165) rfl rfl)⟩
theorem fp_P_18 : pm_Fp "BayStowage$Planner" 18 4 5 (.array .int) true := ⟨N4, T4, 8, Y4, rfl, by decide, hin4, Or.inl (pm_in1 (j := 165) rfl rfl), tyok4, nmok4, rfl, tyok4 5 (by decide), fun _ => rfl⟩
theorem fl_P_21 : pm_Fl "BayStowage$Planner" 21 4 6 := ⟨N4, T4, 8, rfl, by decide, hin4, Or.inl (pm_in1 (j := 166) rfl rfl)⟩
theorem fp_P_21 : pm_Fp "BayStowage$Planner" 21 4 6 (.array .int) true := ⟨N4, T4, 8, Y4, rfl, by decide, hin4, Or.inl (pm_in1 (j := 166) rfl rfl), tyok4, nmok4, rfl, tyok4 6 (by decide), fun _ => rfl⟩
theorem fl_P_24 : pm_Fl "BayStowage$Planner" 24 4 7 := ⟨N4, T4, 8, rfl, by decide, hin4, Or.inl (pm_in1 (j := 167) rfl rfl)⟩
theorem fp_P_24 : pm_Fp "BayStowage$Planner" 24 4 7 (.array .int) true := ⟨N4, T4, 8, Y4, rfl, by decide, hin4, Or.inl (pm_in1 (j := 167) rfl rfl), tyok4, nmok4, rfl, tyok4 7 (by decide), fun _ => rfl⟩
theorem fl_B_16 : pm_Fl "BayStowage" 16 0 0 := ⟨N0, T0, 6, rfl, by decide, hin0, Or.inl (pm_in1 (j := 185) rfl rfl)⟩
theorem fp_B_16 : pm_Fp "BayStowage" 16 0 0 (.object "BayStowage$Ship") true := ⟨N0, T0, 6, Y0, rfl, by decide, hin0, Or.inl (pm_in1 (j := 185) rfl rfl), tyok0, nmok0, rfl, tyok0 0 (by decide), fun _ => rfl⟩
theorem fl_B_25 : pm_Fl "BayStowage" 25 0 1 := ⟨N0, T0, 6, rfl, by decide, hin0, Or.inl (pm_in1 (j := 186) rfl rfl)⟩
theorem fp_B_25 : pm_Fp "BayStowage" 25 0 1 (.object "BayStowage$Hold") true := ⟨N0, T0, 6, Y0, rfl, by decide, hin0, Or.inl (pm_in1 (j := 186) rfl rfl), tyok0, nmok0, rfl, tyok0 1 (by decide), fun _ => rfl⟩
theorem fl_B_29 : pm_Fl "BayStowage" 29 0 2 := ⟨N0, T0, 6, rfl, by decide, hin0, Or.inl (pm_in1 (j := 187) rfl rfl)⟩
theorem fp_B_29 : pm_Fp "BayStowage" 29 0 2 (.object "BayStowage$Hold") true := ⟨N0, T0, 6, Y0, rfl, by decide, hin0, Or.inl (pm_in1 (j := 187) rfl rfl), tyok0, nmok0, rfl, tyok0 2 (by decide), fun _ => rfl⟩
theorem fl_B_35 : pm_Fl "BayStowage" 35 0 3 := ⟨N0, T0, 6, rfl, by decide, hin0, Or.inl (pm_in1 (j := 188) rfl rfl)⟩
theorem fp_B_35 : pm_Fp "BayStowage" 35 0 3 (.object "BayStowage$Script") true := ⟨N0, T0, 6, Y0, rfl, by decide, hin0, Or.inl (pm_in1 (j := 188) rfl rfl), tyok0, nmok0, rfl, tyok0 3 (by decide), fun _ => rfl⟩
theorem fl_B_42 : pm_Fl "BayStowage" 42 0 4 := ⟨N0, T0, 6, rfl, by decide, hin0, Or.inl (pm_in1 (j := 189) rfl rfl)⟩
theorem fp_B_42 : pm_Fp "BayStowage" 42 0 4 (.object "BayStowage$Planner") true := ⟨N0, T0, 6, Y0, rfl, by decide, hin0, Or.inl (pm_in1 (j := 189) rfl rfl), tyok0, nmok0, rfl, tyok0 4 (by decide), fun _ => rfl⟩
theorem fl_B_97 : pm_Fl "BayStowage" 97 0 5 := ⟨N0, T0, 6, rfl, by decide, hin0, Or.inl (pm_in1 (j := 190) rfl rfl)⟩
theorem fp_B_97 : pm_Fp "BayStowage" 97 0 5 (.boolean) false := ⟨N0, T0, 6, Y0, rfl, by decide, hin0, Or.inl (pm_in1 (j := 190) rfl rfl), tyok0, nmok0, rfl, tyok0 5 (by decide), fun h => nomatch h⟩
theorem fl_M_82 : pm_Fl "BayStowageModel" 82 5 0 := ⟨N5, T5, 26, rfl, by decide, hin5, Or.inl (pm_in3 (j := 125) rfl rfl)⟩
theorem fp_M_82 : pm_Fp "BayStowageModel" 82 5 0 (.int) false := ⟨N5, T5, 26, Y5, rfl, by decide, hin5, Or.inl (pm_in3 (j := 125) rfl rfl), tyok5, nmok5, rfl, tyok5 0 (by decide), fun h => nomatch h⟩
theorem fl_M_7 : pm_Fl "BayStowageModel" 7 5 1 := ⟨N5, T5, 26, rfl, by decide, hin5, Or.inl (pm_in3 (j := 126) rfl rfl)⟩
theorem fp_M_7 : pm_Fp "BayStowageModel" 7 5 1 (.int) false := ⟨N5, T5, 26, Y5, rfl, by decide, hin5, Or.inl (pm_in3 (j := 126) rfl rfl), tyok5, nmok5, rfl, tyok5 1 (by decide), fun h => nomatch h⟩
theorem fl_M_13 : pm_Fl "BayStowageModel" 13 5 2 := ⟨N5, T5, 26, rfl, by decide, hin5, Or.inl (pm_in3 (j := 127) rfl rfl)⟩
theorem fp_M_13 : pm_Fp "BayStowageModel" 13 5 2 (.int) false := ⟨N5, T5, 26, Y5, rfl, by decide, hin5, Or.inl (pm_in3 (j := 127) rfl rfl), tyok5, nmok5, rfl, tyok5 2 (by decide), fun h => nomatch h⟩
theorem fl_M_16 : pm_Fl "BayStowageModel" 16 5 3 := ⟨N5, T5, 26, rfl, by decide, hin5, Or.inl (pm_in3 (j := 128) rfl rfl)⟩
theorem fp_M_16 : pm_Fp "BayStowageModel" 16 5 3 (.int) false := ⟨N5, T5, 26, Y5, rfl, by decide, hin5, Or.inl (pm_in3 (j := 128) rfl rfl), tyok5, nmok5, rfl, tyok5 3 (by decide), fun h => nomatch h⟩
theorem fl_M_19 : pm_Fl "BayStowageModel" 19 5 4 := ⟨N5, T5, 26, rfl, by decide, hin5, Or.inl (pm_in3 (j := 129) rfl rfl)⟩
theorem fp_M_19 : pm_Fp "BayStowageModel" 19 5 4 (.int) false := ⟨N5, T5, 26, Y5, rfl, by decide, hin5, Or.inl (pm_in3 (j := 129) rfl rfl), tyok5, nmok5, rfl, tyok5 4 (by decide), fun h => nomatch h⟩
theorem fl_M_22 : pm_Fl "BayStowageModel" 22 5 5 := ⟨N5, T5, 26, rfl, by decide, hin5, Or.inl (pm_in3 (j := 130) rfl rfl)⟩
theorem fp_M_22 : pm_Fp "BayStowageModel" 22 5 5 (.int) false := ⟨N5, T5, 26, Y5, rfl, by decide, hin5, Or.inl (pm_in3 (j := 130) rfl rfl), tyok5, nmok5, rfl, tyok5 5 (by decide), fun h => nomatch h⟩
theorem fl_M_25 : pm_Fl "BayStowageModel" 25 5 6 := ⟨N5, T5, 26, rfl, by decide, hin5, Or.inl (pm_in3 (j := 131) rfl rfl)⟩
theorem fp_M_25 : pm_Fp "BayStowageModel" 25 5 6 (.int) false := ⟨N5, T5, 26, Y5, rfl, by decide, hin5, Or.inl (pm_in3 (j := 131) rfl rfl), tyok5, nmok5, rfl, tyok5 6 (by decide), fun h => nomatch h⟩
theorem fl_M_28 : pm_Fl "BayStowageModel" 28 5 7 := ⟨N5, T5, 26, rfl, by decide, hin5, Or.inl (pm_in3 (j := 132) rfl rfl)⟩
theorem fp_M_28 : pm_Fp "BayStowageModel" 28 5 7 (.array .boolean) true := ⟨N5, T5, 26, Y5, rfl, by decide, hin5, Or.inl (pm_in3 (j := 132) rfl rfl), tyok5, nmok5, rfl, tyok5 7 (by decide), fun _ => rfl⟩
theorem fl_M_100 : pm_Fl "BayStowageModel" 100 5 8 := ⟨N5, T5, 26, rfl, by decide, hin5, Or.inl (pm_in3 (j := 133) rfl rfl)⟩
theorem fp_M_100 : pm_Fp "BayStowageModel" 100 5 8 (.int) false := ⟨N5, T5, 26, Y5, rfl, by decide, hin5, Or.inl (pm_in3 (j := 133) rfl rfl), tyok5, nmok5, rfl, tyok5 8 (by decide), fun h => nomatch h⟩
theorem fl_M_32 : pm_Fl "BayStowageModel" 32 5 9 := ⟨N5, T5, 26, rfl, by decide, hin5, Or.inl (pm_in3 (j := 134) rfl rfl)⟩
theorem fp_M_32 : pm_Fp "BayStowageModel" 32 5 9 (.array .int) true := ⟨N5, T5, 26, Y5, rfl, by decide, hin5, Or.inl (pm_in3 (j := 134) rfl rfl), tyok5, nmok5, rfl, tyok5 9 (by decide), fun _ => rfl⟩
theorem fl_M_36 : pm_Fl "BayStowageModel" 36 5 10 := ⟨N5, T5, 26, rfl, by decide, hin5, Or.inl (pm_in3 (j := 135) rfl rfl)⟩
theorem fp_M_36 : pm_Fp "BayStowageModel" 36 5 10 (.array .int) true := ⟨N5, T5, 26, Y5, rfl, by decide, hin5, Or.inl (pm_in3 (j := 135) rfl rfl), tyok5, nmok5, rfl, tyok5 10 (by decide), fun _ => rfl⟩
theorem fl_M_39 : pm_Fl "BayStowageModel" 39 5 11 := ⟨N5, T5, 26, rfl, by decide, hin5, Or.inl (pm_in3 (j := 136) rfl rfl)⟩
theorem fp_M_39 : pm_Fp "BayStowageModel" 39 5 11 (.array .int) true := ⟨N5, T5, 26, Y5, rfl, by decide, hin5, Or.inl (pm_in3 (j := 136) rfl rfl), tyok5, nmok5, rfl, tyok5 11 (by decide), fun _ => rfl⟩
theorem fl_M_42 : pm_Fl "BayStowageModel" 42 5 12 := ⟨N5, T5, 26, rfl, by decide, hin5, Or.inl (pm_in3 (j := 137) rfl rfl)⟩
theorem fp_M_42 : pm_Fp "BayStowageModel" 42 5 12 (.array .int) true := ⟨N5, T5, 26, Y5, rfl, by decide, hin5, Or.inl (pm_in3 (j := 137) rfl rfl), tyok5, nmok5, rfl, tyok5 12 (by decide), fun _ => rfl⟩
theorem fl_M_45 : pm_Fl "BayStowageModel" 45 5 13 := ⟨N5, T5, 26, rfl, by decide, hin5, Or.inl (pm_in3 (j := 138) rfl rfl)⟩
theorem fp_M_45 : pm_Fp "BayStowageModel" 45 5 13 (.array .boolean) true := ⟨N5, T5, 26, Y5, rfl, by decide, hin5, Or.inl (pm_in3 (j := 138) rfl rfl), tyok5, nmok5, rfl, tyok5 13 (by decide), fun _ => rfl⟩
theorem fl_M_48 : pm_Fl "BayStowageModel" 48 5 14 := ⟨N5, T5, 26, rfl, by decide, hin5, Or.inl (pm_in3 (j := 139) rfl rfl)⟩
theorem fp_M_48 : pm_Fp "BayStowageModel" 48 5 14 (.array .int) true := ⟨N5, T5, 26, Y5, rfl, by decide, hin5, Or.inl (pm_in3 (j := 139) rfl rfl), tyok5, nmok5, rfl, tyok5 14 (by decide), fun _ => rfl⟩
theorem fl_M_51 : pm_Fl "BayStowageModel" 51 5 15 := ⟨N5, T5, 26, rfl, by decide, hin5, Or.inl (pm_in3 (j := 140) rfl rfl)⟩
theorem fp_M_51 : pm_Fp "BayStowageModel" 51 5 15 (.array .int) true := ⟨N5, T5, 26, Y5, rfl, by decide, hin5, Or.inl (pm_in3 (j := 140) rfl rfl), tyok5, nmok5, rfl, tyok5 15 (by decide), fun _ => rfl⟩
theorem fl_M_54 : pm_Fl "BayStowageModel" 54 5 16 := ⟨N5, T5, 26, rfl, by decide, hin5, Or.inl (pm_in3 (j := 141) rfl rfl)⟩
theorem fp_M_54 : pm_Fp "BayStowageModel" 54 5 16 (.array .int) true := ⟨N5, T5, 26, Y5, rfl, by decide, hin5, Or.inl (pm_in3 (j := 141) rfl rfl), tyok5, nmok5, rfl, tyok5 16 (by decide), fun _ => rfl⟩
theorem fl_M_57 : pm_Fl "BayStowageModel" 57 5 17 := ⟨N5, T5, 26, rfl, by decide, hin5, Or.inl (pm_in3 (j := 142) rfl rfl)⟩
theorem fp_M_57 : pm_Fp "BayStowageModel" 57 5 17 (.array .int) true := ⟨N5, T5, 26, Y5, rfl, by decide, hin5, Or.inl (pm_in3 (j := 142) rfl rfl), tyok5, nmok5, rfl, tyok5 17 (by decide), fun _ => rfl⟩
theorem fl_M_85 : pm_Fl "BayStowageModel" 85 5 18 := ⟨N5, T5, 26, rfl, by decide, hin5, Or.inl (pm_in3 (j := 143) rfl rfl)⟩
theorem fp_M_85 : pm_Fp "BayStowageModel" 85 5 18 (.boolean) false := ⟨N5, T5, 26, Y5, rfl, by decide, hin5, Or.inl (pm_in3 (j := 143) rfl rfl), tyok5, nmok5, rfl, tyok5 18 (by decide), fun h => nomatch h⟩
theorem fl_M_89 : pm_Fl "BayStowageModel" 89 5 19 := ⟨N5, T5, 26, rfl, by decide, hin5, Or.inl (pm_in3 (j := 144) rfl rfl)⟩
theorem fp_M_89 : pm_Fp "BayStowageModel" 89 5 19 (.int) false := ⟨N5, T5, 26, Y5, rfl, by decide, hin5, Or.inl (pm_in3 (j := 144) rfl rfl), tyok5, nmok5, rfl, tyok5 19 (by decide), fun h => nomatch h⟩
theorem fl_M_60 : pm_Fl "BayStowageModel" 60 5 20 := ⟨N5, T5, 26, rfl, by decide, hin5, Or.inl (pm_in3 (j := 145) rfl rfl)⟩
theorem fp_M_60 : pm_Fp "BayStowageModel" 60 5 20 (.array .int) true := ⟨N5, T5, 26, Y5, rfl, by decide, hin5, Or.inl (pm_in3 (j := 145) rfl rfl), tyok5, nmok5, rfl, tyok5 20 (by decide), fun _ => rfl⟩
theorem fl_M_63 : pm_Fl "BayStowageModel" 63 5 21 := ⟨N5, T5, 26, rfl, by decide, hin5, Or.inl (pm_in3 (j := 146) rfl rfl)⟩
theorem fp_M_63 : pm_Fp "BayStowageModel" 63 5 21 (.array .int) true := ⟨N5, T5, 26, Y5, rfl, by decide, hin5, Or.inl (pm_in3 (j := 146) rfl rfl), tyok5, nmok5, rfl, tyok5 21 (by decide), fun _ => rfl⟩
theorem fl_M_66 : pm_Fl "BayStowageModel" 66 5 22 := ⟨N5, T5, 26, rfl, by decide, hin5, Or.inl (pm_in3 (j := 147) rfl rfl)⟩
theorem fp_M_66 : pm_Fp "BayStowageModel" 66 5 22 (.array .int) true := ⟨N5, T5, 26, Y5, rfl, by decide, hin5, Or.inl (pm_in3 (j := 147) rfl rfl), tyok5, nmok5, rfl, tyok5 22 (by decide), fun _ => rfl⟩
theorem fl_M_69 : pm_Fl "BayStowageModel" 69 5 23 := ⟨N5, T5, 26, rfl, by decide, hin5, Or.inl (pm_in3 (j := 148) rfl rfl)⟩
theorem fp_M_69 : pm_Fp "BayStowageModel" 69 5 23 (.array .int) true := ⟨N5, T5, 26, Y5, rfl, by decide, hin5, Or.inl (pm_in3 (j := 148) rfl rfl), tyok5, nmok5, rfl, tyok5 23 (by decide), fun _ => rfl⟩
theorem fl_M_72 : pm_Fl "BayStowageModel" 72 5 24 := ⟨N5, T5, 26, rfl, by decide, hin5, Or.inl (pm_in3 (j := 149) rfl rfl)⟩
theorem fp_M_72 : pm_Fp "BayStowageModel" 72 5 24 (.array .int) true := ⟨N5, T5, 26, Y5, rfl, by decide, hin5, Or.inl (pm_in3 (j := 149) rfl rfl), tyok5, nmok5, rfl, tyok5 24 (by decide), fun _ => rfl⟩
theorem fl_M_75 : pm_Fl "BayStowageModel" 75 5 25 := ⟨N5, T5, 26, rfl, by decide, hin5, Or.inl (pm_in3 (j := 150) rfl rfl)⟩
theorem fp_M_75 : pm_Fp "BayStowageModel" 75 5 25 (.array .int) true := ⟨N5, T5, 26, Y5, rfl, by decide, hin5, Or.inl (pm_in3 (j := 150) rfl rfl), tyok5, nmok5, rfl, tyok5 25 (by decide), fun _ => rfl⟩
theorem mo_B_init : pm_Mo mB_init 0 := ⟨pm_in1 (j := 21) rfl rfl, by decide +kernel, ⟨by decide, by decide⟩, by decide +kernel, (pm_in1 (j := 1) rfl rfl), by decide, rfl⟩
theorem im_B_init : Cond.instanceMethod yB_init ∈ pm_ws := (pm_in1 (j := 20) rfl rfl)
theorem mo_S_init : pm_Mo mS_init 0 := ⟨pm_in1 (j := 29) rfl rfl, by decide +kernel, ⟨by decide, by decide⟩, by decide +kernel, (pm_in1 (j := 2) rfl rfl), by decide, rfl⟩
theorem im_S_init : Cond.instanceMethod yS_init ∈ pm_ws := (pm_in1 (j := 28) rfl rfl)
theorem mo_S_refit : pm_Mo mS_refit 6 := ⟨pm_in1 (j := 93) rfl rfl, by decide +kernel, ⟨by decide, by decide⟩, by decide +kernel, (pm_in1 (j := 2) rfl rfl), by decide, rfl⟩
theorem im_S_refit : Cond.instanceMethod yS_refit ∈ pm_ws := (pm_in1 (j := 92) rfl rfl)
theorem se_S_refit : Cond.selects "BayStowage$Ship" yS_refit yS_refit ∈ pm_ws := pm_inS (j := 0) rfl rfl
theorem mo_H_init : pm_Mo mH_init 1 := ⟨pm_in1 (j := 98) rfl rfl, by decide +kernel, ⟨by decide, by decide⟩, by decide +kernel, (pm_in1 (j := 3) rfl rfl), by decide, rfl⟩
theorem im_H_init : Cond.instanceMethod yH_init ∈ pm_ws := (pm_in1 (j := 97) rfl rfl)
theorem mo_A_fill : pm_Mo mA_fill 2 := ⟨pm_in1 (j := 102) rfl rfl, by decide +kernel, ⟨by decide, by decide⟩, by decide +kernel, (pm_in1 (j := 4) rfl rfl), by decide, rfl⟩
theorem st_A_fill : Cond.static yA_fill ∈ pm_ws := (pm_in1 (j := 101) rfl rfl)
theorem mo_T_init : pm_Mo mT_init 0 := ⟨pm_in1 (j := 126) rfl rfl, by decide +kernel, ⟨by decide, by decide⟩, by decide +kernel, (pm_in1 (j := 5) rfl rfl), by decide, rfl⟩
theorem im_T_init : Cond.instanceMethod yT_init ∈ pm_ws := (pm_in1 (j := 125) rfl rfl)
theorem mo_P_init : pm_Mo mP_init 1 := ⟨pm_in1 (j := 156) rfl rfl, by decide +kernel, ⟨by decide, by decide⟩, by decide +kernel, (pm_in1 (j := 6) rfl rfl), by decide, rfl⟩
theorem im_P_init : Cond.instanceMethod yP_init ∈ pm_ws := (pm_in1 (j := 155) rfl rfl)
theorem mo_B_plan : pm_Mo mB_plan 0 := ⟨pm_in1 (j := 207) rfl rfl, by decide +kernel, ⟨by decide, by decide⟩, by decide +kernel, (pm_in1 (j := 1) rfl rfl), by decide, rfl⟩
theorem im_B_plan : Cond.instanceMethod yB_plan ∈ pm_ws := (pm_in1 (j := 205) rfl rfl)
theorem se_B_plan : Cond.selects "BayStowage" yB_plan yB_plan ∈ pm_ws := (pm_in1 (j := 206) rfl rfl)
theorem mo_B_dropPlan : pm_Mo mB_dropPlan 0 := ⟨pm_in1 (j := 211) rfl rfl, by decide +kernel, ⟨by decide, by decide⟩, by decide +kernel, (pm_in1 (j := 1) rfl rfl), by decide, rfl⟩
theorem im_B_dropPlan : Cond.instanceMethod yB_dropPlan ∈ pm_ws := (pm_in1 (j := 210) rfl rfl)
theorem se_B_dropPlan : Cond.selects "BayStowage" yB_dropPlan yB_dropPlan ∈ pm_ws := pm_inS (j := 1) rfl rfl
theorem mo_T_clear : pm_Mo mT_clear 0 := ⟨pm_in1 (j := 215) rfl rfl, by decide +kernel, ⟨by decide, by decide⟩, by decide +kernel, (pm_in1 (j := 5) rfl rfl), by decide, rfl⟩
theorem im_T_clear : Cond.instanceMethod yT_clear ∈ pm_ws := (pm_in1 (j := 214) rfl rfl)
theorem se_T_clear : Cond.selects "BayStowage$Script" yT_clear yT_clear ∈ pm_ws := pm_inS (j := 2) rfl rfl
theorem mo_H_clear : pm_Mo mH_clear 0 := ⟨pm_in1 (j := 219) rfl rfl, by decide +kernel, ⟨by decide, by decide⟩, by decide +kernel, (pm_in1 (j := 3) rfl rfl), by decide, rfl⟩
theorem im_H_clear : Cond.instanceMethod yH_clear ∈ pm_ws := (pm_in1 (j := 218) rfl rfl)
theorem se_H_clear : Cond.selects "BayStowage$Hold" yH_clear yH_clear ∈ pm_ws := pm_inS (j := 3) rfl rfl
theorem mo_P_listAll : pm_Mo mP_listAll 0 := ⟨pm_in1 (j := 223) rfl rfl, by decide +kernel, ⟨by decide, by decide⟩, by decide +kernel, (pm_in1 (j := 6) rfl rfl), by decide, rfl⟩
theorem im_P_listAll : Cond.instanceMethod yP_listAll ∈ pm_ws := (pm_in1 (j := 222) rfl rfl)
theorem se_P_listAll : Cond.selects "BayStowage$Planner" yP_listAll yP_listAll ∈ pm_ws := pm_inS (j := 4) rfl rfl
theorem mo_S_departures : pm_Mo mS_departures 0 := ⟨pm_in1 (j := 227) rfl rfl, by decide +kernel, ⟨by decide, by decide⟩, by decide +kernel, (pm_in1 (j := 2) rfl rfl), by decide, rfl⟩
theorem im_S_departures : Cond.instanceMethod yS_departures ∈ pm_ws := (pm_in1 (j := 226) rfl rfl)
theorem se_S_departures : Cond.selects "BayStowage$Ship" yS_departures yS_departures ∈ pm_ws := pm_inS (j := 5) rfl rfl
theorem mo_P_sameBoxes : pm_Mo mP_sameBoxes 2 := ⟨pm_in1 (j := 231) rfl rfl, by decide +kernel, ⟨by decide, by decide⟩, by decide +kernel, (pm_in1 (j := 6) rfl rfl), by decide, rfl⟩
theorem im_P_sameBoxes : Cond.instanceMethod yP_sameBoxes ∈ pm_ws := (pm_in1 (j := 230) rfl rfl)
theorem se_P_sameBoxes : Cond.selects "BayStowage$Planner" yP_sameBoxes yP_sameBoxes ∈ pm_ws := pm_inS (j := 6) rfl rfl
theorem mo_S_dueAt : pm_Mo mS_dueAt 1 := ⟨pm_in1 (j := 235) rfl rfl, by decide +kernel, ⟨by decide, by decide⟩, by decide +kernel, (pm_in1 (j := 2) rfl rfl), by decide, rfl⟩
theorem im_S_dueAt : Cond.instanceMethod yS_dueAt ∈ pm_ws := (pm_in1 (j := 234) rfl rfl)
theorem se_S_dueAt : Cond.selects "BayStowage$Ship" yS_dueAt yS_dueAt ∈ pm_ws := pm_inS (j := 7) rfl rfl
theorem mo_P_listFrom : pm_Mo mP_listFrom 2 := ⟨pm_in2 (j := 0) rfl rfl, by decide +kernel, ⟨by decide, by decide⟩, by decide +kernel, (pm_in1 (j := 6) rfl rfl), by decide, rfl⟩
theorem im_P_listFrom : Cond.instanceMethod yP_listFrom ∈ pm_ws := (pm_in1 (j := 239) rfl rfl)
theorem se_P_listFrom : Cond.selects "BayStowage$Planner" yP_listFrom yP_listFrom ∈ pm_ws := pm_inS (j := 8) rfl rfl
theorem mo_P_listBehind : pm_Mo mP_listBehind 2 := ⟨pm_in2 (j := 4) rfl rfl, by decide +kernel, ⟨by decide, by decide⟩, by decide +kernel, (pm_in1 (j := 6) rfl rfl), by decide, rfl⟩
theorem im_P_listBehind : Cond.instanceMethod yP_listBehind ∈ pm_ws := (pm_in2 (j := 3) rfl rfl)
theorem se_P_listBehind : Cond.selects "BayStowage$Planner" yP_listBehind yP_listBehind ∈ pm_ws := pm_inS (j := 9) rfl rfl
theorem mo_H_isSound : pm_Mo mH_isSound 0 := ⟨pm_in2 (j := 8) rfl rfl, by decide +kernel, ⟨by decide, by decide⟩, by decide +kernel, (pm_in1 (j := 3) rfl rfl), by decide, rfl⟩
theorem im_H_isSound : Cond.instanceMethod yH_isSound ∈ pm_ws := (pm_in2 (j := 7) rfl rfl)
theorem se_H_isSound : Cond.selects "BayStowage$Hold" yH_isSound yH_isSound ∈ pm_ws := pm_inS (j := 10) rfl rfl
theorem mo_H_signedList : pm_Mo mH_signedList 0 := ⟨pm_in2 (j := 12) rfl rfl, by decide +kernel, ⟨by decide, by decide⟩, by decide +kernel, (pm_in1 (j := 3) rfl rfl), by decide, rfl⟩
theorem im_H_signedList : Cond.instanceMethod yH_signedList ∈ pm_ws := (pm_in2 (j := 11) rfl rfl)
theorem se_H_signedList : Cond.selects "BayStowage$Hold" yH_signedList yH_signedList ∈ pm_ws := pm_inS (j := 11) rfl rfl
theorem st_Z_abs : Cond.static yZ_abs ∈ pm_ws := (pm_in2 (j := 14) rfl rfl)
theorem mo_H_isSoundStack : pm_Mo mH_isSoundStack 1 := ⟨pm_in2 (j := 19) rfl rfl, by decide +kernel, ⟨by decide, by decide⟩, by decide +kernel, (pm_in1 (j := 3) rfl rfl), by decide, rfl⟩
theorem im_H_isSoundStack : Cond.instanceMethod yH_isSoundStack ∈ pm_ws := (pm_in2 (j := 18) rfl rfl)
theorem se_H_isSoundStack : Cond.selects "BayStowage$Hold" yH_isSoundStack yH_isSoundStack ∈ pm_ws := pm_inS (j := 12) rfl rfl
theorem mo_H_holds : pm_Mo mH_holds 2 := ⟨pm_in2 (j := 23) rfl rfl, by decide +kernel, ⟨by decide, by decide⟩, by decide +kernel, (pm_in1 (j := 3) rfl rfl), by decide, rfl⟩
theorem im_H_holds : Cond.instanceMethod yH_holds ∈ pm_ws := (pm_in2 (j := 22) rfl rfl)
theorem se_H_holds : Cond.selects "BayStowage$Hold" yH_holds yH_holds ∈ pm_ws := pm_inS (j := 13) rfl rfl
theorem mo_C_of : pm_Mo mC_of 1 := ⟨pm_in2 (j := 26) rfl rfl, by decide +kernel, ⟨by decide, by decide⟩, by decide +kernel, (pm_in1 (j := 14) rfl rfl), by decide, rfl⟩
theorem st_C_of : Cond.static yC_of ∈ pm_ws := (pm_in2 (j := 25) rfl rfl)
theorem mo_H_hasRoom : pm_Mo mH_hasRoom 1 := ⟨pm_in2 (j := 30) rfl rfl, by decide +kernel, ⟨by decide, by decide⟩, by decide +kernel, (pm_in1 (j := 3) rfl rfl), by decide, rfl⟩
theorem im_H_hasRoom : Cond.instanceMethod yH_hasRoom ∈ pm_ws := (pm_in2 (j := 29) rfl rfl)
theorem se_H_hasRoom : Cond.selects "BayStowage$Hold" yH_hasRoom yH_hasRoom ∈ pm_ws := pm_inS (j := 14) rfl rfl
theorem mo_S_hasStack : pm_Mo mS_hasStack 1 := ⟨pm_in2 (j := 34) rfl rfl, by decide +kernel, ⟨by decide, by decide⟩, by decide +kernel, (pm_in1 (j := 2) rfl rfl), by decide, rfl⟩
theorem im_S_hasStack : Cond.instanceMethod yS_hasStack ∈ pm_ws := (pm_in2 (j := 33) rfl rfl)
theorem se_S_hasStack : Cond.selects "BayStowage$Ship" yS_hasStack yS_hasStack ∈ pm_ws := pm_inS (j := 15) rfl rfl
theorem mo_B_within : pm_Mo mB_within 3 := ⟨pm_in2 (j := 37) rfl rfl, by decide +kernel, ⟨by decide, by decide⟩, by decide +kernel, (pm_in1 (j := 1) rfl rfl), by decide, rfl⟩
theorem st_B_within : Cond.static yB_within ∈ pm_ws := (pm_in2 (j := 36) rfl rfl)
theorem mo_P_listWith : pm_Mo mP_listWith 3 := ⟨pm_in2 (j := 41) rfl rfl, by decide +kernel, ⟨by decide, by decide⟩, by decide +kernel, (pm_in1 (j := 6) rfl rfl), by decide, rfl⟩
theorem im_P_listWith : Cond.instanceMethod yP_listWith ∈ pm_ws := (pm_in2 (j := 40) rfl rfl)
theorem se_P_listWith : Cond.selects "BayStowage$Planner" yP_listWith yP_listWith ∈ pm_ws := pm_inS (j := 16) rfl rfl
theorem mo_H_stow : pm_Mo mH_stow 2 := ⟨pm_in2 (j := 45) rfl rfl, by decide +kernel, ⟨by decide, by decide⟩, by decide +kernel, (pm_in1 (j := 3) rfl rfl), by decide, rfl⟩
theorem im_H_stow : Cond.instanceMethod yH_stow ∈ pm_ws := (pm_in2 (j := 44) rfl rfl)
theorem se_H_stow : Cond.selects "BayStowage$Hold" yH_stow yH_stow ∈ pm_ws := pm_inS (j := 17) rfl rfl
theorem mo_H_unstow : pm_Mo mH_unstow 2 := ⟨pm_in2 (j := 49) rfl rfl, by decide +kernel, ⟨by decide, by decide⟩, by decide +kernel, (pm_in1 (j := 3) rfl rfl), by decide, rfl⟩
theorem im_H_unstow : Cond.instanceMethod yH_unstow ∈ pm_ws := (pm_in2 (j := 48) rfl rfl)
theorem se_H_unstow : Cond.selects "BayStowage$Hold" yH_unstow yH_unstow ∈ pm_ws := pm_inS (j := 18) rfl rfl
theorem mo_P_chooseAll : pm_Mo mP_chooseAll 0 := ⟨pm_in2 (j := 53) rfl rfl, by decide +kernel, ⟨by decide, by decide⟩, by decide +kernel, (pm_in1 (j := 6) rfl rfl), by decide, rfl⟩
theorem im_P_chooseAll : Cond.instanceMethod yP_chooseAll ∈ pm_ws := (pm_in2 (j := 52) rfl rfl)
theorem se_P_chooseAll : Cond.selects "BayStowage$Planner" yP_chooseAll yP_chooseAll ∈ pm_ws := pm_inS (j := 19) rfl rfl
theorem mo_P_chooses : pm_Mo mP_chooses 3 := ⟨pm_in2 (j := 58) rfl rfl, by decide +kernel, ⟨by decide, by decide⟩, by decide +kernel, (pm_in1 (j := 6) rfl rfl), by decide, rfl⟩
theorem im_P_chooses : Cond.instanceMethod yP_chooses ∈ pm_ws := (pm_in2 (j := 57) rfl rfl)
theorem se_P_chooses : Cond.selects "BayStowage$Planner" yP_chooses yP_chooses ∈ pm_ws := pm_inS (j := 20) rfl rfl
theorem mo_P_staying : pm_Mo mP_staying 1 := ⟨pm_in2 (j := 62) rfl rfl, by decide +kernel, ⟨by decide, by decide⟩, by decide +kernel, (pm_in1 (j := 6) rfl rfl), by decide, rfl⟩
theorem im_P_staying : Cond.instanceMethod yP_staying ∈ pm_ws := (pm_in2 (j := 61) rfl rfl)
theorem se_P_staying : Cond.selects "BayStowage$Planner" yP_staying yP_staying ∈ pm_ws := pm_inS (j := 21) rfl rfl
theorem mo_I_bitCount : pm_Mo mI_bitCount 1 := ⟨pm_in2 (j := 65) rfl rfl, by decide +kernel, ⟨by decide, by decide⟩, by decide +kernel, (pm_in1 (j := 15) rfl rfl), by decide, rfl⟩
theorem st_I_bitCount : Cond.static yI_bitCount ∈ pm_ws := (pm_in2 (j := 64) rfl rfl)
theorem mo_C_kept : pm_Mo mC_kept 2 := ⟨pm_in2 (j := 71) rfl rfl, by decide +kernel, ⟨by decide, by decide⟩, by decide +kernel, (pm_in1 (j := 14) rfl rfl), by decide, rfl⟩
theorem st_C_kept : Cond.static yC_kept ∈ pm_ws := (pm_in2 (j := 70) rfl rfl)
theorem mo_C_keptIn : pm_Mo mC_keptIn 3 := ⟨pm_in2 (j := 74) rfl rfl, by decide +kernel, ⟨by decide, by decide⟩, by decide +kernel, (pm_in1 (j := 14) rfl rfl), by decide, rfl⟩
theorem st_C_keptIn : Cond.static yC_keptIn ∈ pm_ws := (pm_in2 (j := 73) rfl rfl)
theorem mo_C_boxIn : pm_Mo mC_boxIn 3 := ⟨pm_in2 (j := 77) rfl rfl, by decide +kernel, ⟨by decide, by decide⟩, by decide +kernel, (pm_in1 (j := 14) rfl rfl), by decide, rfl⟩
theorem st_C_boxIn : Cond.static yC_boxIn ∈ pm_ws := (pm_in2 (j := 76) rfl rfl)
theorem mo_P_goesOn : pm_Mo mP_goesOn 3 := ⟨pm_in2 (j := 81) rfl rfl, by decide +kernel, ⟨by decide, by decide⟩, by decide +kernel, (pm_in1 (j := 6) rfl rfl), by decide, rfl⟩
theorem im_P_goesOn : Cond.instanceMethod yP_goesOn ∈ pm_ws := (pm_in2 (j := 80) rfl rfl)
theorem se_P_goesOn : Cond.selects "BayStowage$Planner" yP_goesOn yP_goesOn ∈ pm_ws := pm_inS (j := 22) rfl rfl
theorem mo_P_writeInto : pm_Mo mP_writeInto 1 := ⟨pm_in2 (j := 85) rfl rfl, by decide +kernel, ⟨by decide, by decide⟩, by decide +kernel, (pm_in1 (j := 6) rfl rfl), by decide, rfl⟩
theorem im_P_writeInto : Cond.instanceMethod yP_writeInto ∈ pm_ws := (pm_in2 (j := 84) rfl rfl)
theorem se_P_writeInto : Cond.selects "BayStowage$Planner" yP_writeInto yP_writeInto ∈ pm_ws := pm_inS (j := 23) rfl rfl
theorem mo_P_writeTakenOff : pm_Mo mP_writeTakenOff 4 := ⟨pm_in2 (j := 89) rfl rfl, by decide +kernel, ⟨by decide, by decide⟩, by decide +kernel, (pm_in1 (j := 6) rfl rfl), by decide, rfl⟩
theorem im_P_writeTakenOff : Cond.instanceMethod yP_writeTakenOff ∈ pm_ws := (pm_in2 (j := 88) rfl rfl)
theorem se_P_writeTakenOff : Cond.selects "BayStowage$Planner" yP_writeTakenOff yP_writeTakenOff ∈ pm_ws := pm_inS (j := 24) rfl rfl
theorem mo_C_heightOf : pm_Mo mC_heightOf 2 := ⟨pm_in2 (j := 93) rfl rfl, by decide +kernel, ⟨by decide, by decide⟩, by decide +kernel, (pm_in1 (j := 14) rfl rfl), by decide, rfl⟩
theorem st_C_heightOf : Cond.static yC_heightOf ∈ pm_ws := (pm_in2 (j := 92) rfl rfl)
theorem mo_T_add : pm_Mo mT_add 4 := ⟨pm_in2 (j := 98) rfl rfl, by decide +kernel, ⟨by decide, by decide⟩, by decide +kernel, (pm_in1 (j := 5) rfl rfl), by decide, rfl⟩
theorem im_T_add : Cond.instanceMethod yT_add ∈ pm_ws := (pm_in2 (j := 97) rfl rfl)
theorem se_T_add : Cond.selects "BayStowage$Script" yT_add yT_add ∈ pm_ws := pm_inS (j := 25) rfl rfl
theorem mo_P_writePutOn : pm_Mo mP_writePutOn 4 := ⟨pm_in2 (j := 102) rfl rfl, by decide +kernel, ⟨by decide, by decide⟩, by decide +kernel, (pm_in1 (j := 6) rfl rfl), by decide, rfl⟩
theorem im_P_writePutOn : Cond.instanceMethod yP_writePutOn ∈ pm_ws := (pm_in2 (j := 101) rfl rfl)
theorem se_P_writePutOn : Cond.selects "BayStowage$Planner" yP_writePutOn yP_writePutOn ∈ pm_ws := pm_inS (j := 26) rfl rfl
theorem mo_B_moves : pm_Mo mB_moves 0 := ⟨pm_in2 (j := 106) rfl rfl, by decide +kernel, ⟨by decide, by decide⟩, by decide +kernel, (pm_in1 (j := 1) rfl rfl), by decide, rfl⟩
theorem im_B_moves : Cond.instanceMethod yB_moves ∈ pm_ws := (pm_in2 (j := 104) rfl rfl)
theorem se_B_moves : Cond.selects "BayStowage" yB_moves yB_moves ∈ pm_ws := (pm_in2 (j := 105) rfl rfl)
theorem st_L_bay : Cond.static yL_bay ∈ pm_ws := (pm_in2 (j := 108) rfl rfl)
theorem mo_B_bay : pm_Mo mB_bay 6 := ⟨pm_in2 (j := 114) rfl rfl, by decide +kernel, ⟨by decide, by decide⟩, by decide +kernel, (pm_in1 (j := 1) rfl rfl), by decide, rfl⟩
theorem im_B_bay : Cond.instanceMethod yB_bay ∈ pm_ws := (pm_in2 (j := 112) rfl rfl)
theorem se_B_bay : Cond.selects "BayStowage" yB_bay yB_bay ∈ pm_ws := (pm_in2 (j := 113) rfl rfl)
theorem mo_B_require : pm_Mo mB_require 1 := ⟨pm_in2 (j := 118) rfl rfl, by decide +kernel, ⟨by decide, by decide⟩, by decide +kernel, (pm_in1 (j := 1) rfl rfl), by decide, rfl⟩
theorem st_B_require : Cond.static yB_require ∈ pm_ws := (pm_in2 (j := 117) rfl rfl)
theorem st_L_plug : Cond.static yL_plug ∈ pm_ws := (pm_in2 (j := 183) rfl rfl)
theorem mo_B_plug : pm_Mo mB_plug 2 := ⟨pm_in2 (j := 188) rfl rfl, by decide +kernel, ⟨by decide, by decide⟩, by decide +kernel, (pm_in1 (j := 1) rfl rfl), by decide, rfl⟩
theorem im_B_plug : Cond.instanceMethod yB_plug ∈ pm_ws := (pm_in2 (j := 186) rfl rfl)
theorem se_B_plug : Cond.selects "BayStowage" yB_plug yB_plug ∈ pm_ws := (pm_in2 (j := 187) rfl rfl)
theorem st_L_box : Cond.static yL_box ∈ pm_ws := (pm_in2 (j := 191) rfl rfl)
theorem mo_B_box : pm_Mo mB_box 4 := ⟨pm_in2 (j := 197) rfl rfl, by decide +kernel, ⟨by decide, by decide⟩, by decide +kernel, (pm_in1 (j := 1) rfl rfl), by decide, rfl⟩
theorem im_B_box : Cond.instanceMethod yB_box ∈ pm_ws := (pm_in2 (j := 195) rfl rfl)
theorem se_B_box : Cond.selects "BayStowage" yB_box yB_box ∈ pm_ws := (pm_in2 (j := 196) rfl rfl)
theorem mo_S_hasPort : pm_Mo mS_hasPort 1 := ⟨pm_in2 (j := 201) rfl rfl, by decide +kernel, ⟨by decide, by decide⟩, by decide +kernel, (pm_in1 (j := 2) rfl rfl), by decide, rfl⟩
theorem im_S_hasPort : Cond.instanceMethod yS_hasPort ∈ pm_ws := (pm_in2 (j := 200) rfl rfl)
theorem se_S_hasPort : Cond.selects "BayStowage$Ship" yS_hasPort yS_hasPort ∈ pm_ws := pm_inS (j := 28) rfl rfl
theorem mo_S_book : pm_Mo mS_book 4 := ⟨pm_in2 (j := 220) rfl rfl, by decide +kernel, ⟨by decide, by decide⟩, by decide +kernel, (pm_in1 (j := 2) rfl rfl), by decide, rfl⟩
theorem im_S_book : Cond.instanceMethod yS_book ∈ pm_ws := (pm_in2 (j := 219) rfl rfl)
theorem se_S_book : Cond.selects "BayStowage$Ship" yS_book yS_book ∈ pm_ws := pm_inS (j := 29) rfl rfl
theorem st_L_roll : Cond.static yL_roll ∈ pm_ws := (pm_in2 (j := 222) rfl rfl)
theorem mo_B_roll : pm_Mo mB_roll 1 := ⟨pm_in2 (j := 227) rfl rfl, by decide +kernel, ⟨by decide, by decide⟩, by decide +kernel, (pm_in1 (j := 1) rfl rfl), by decide, rfl⟩
theorem im_B_roll : Cond.instanceMethod yB_roll ∈ pm_ws := (pm_in2 (j := 225) rfl rfl)
theorem se_B_roll : Cond.selects "BayStowage" yB_roll yB_roll ∈ pm_ws := (pm_in2 (j := 226) rfl rfl)
theorem mo_S_hasBox : pm_Mo mS_hasBox 1 := ⟨pm_in2 (j := 231) rfl rfl, by decide +kernel, ⟨by decide, by decide⟩, by decide +kernel, (pm_in1 (j := 2) rfl rfl), by decide, rfl⟩
theorem im_S_hasBox : Cond.instanceMethod yS_hasBox ∈ pm_ws := (pm_in2 (j := 230) rfl rfl)
theorem se_S_hasBox : Cond.selects "BayStowage$Ship" yS_hasBox yS_hasBox ∈ pm_ws := pm_inS (j := 30) rfl rfl
theorem st_L_move : Cond.static yL_move ∈ pm_ws := (pm_in2 (j := 233) rfl rfl)
theorem mo_B_move : pm_Mo mB_move 2 := ⟨pm_in2 (j := 239) rfl rfl, by decide +kernel, ⟨by decide, by decide⟩, by decide +kernel, (pm_in1 (j := 1) rfl rfl), by decide, rfl⟩
theorem im_B_move : Cond.instanceMethod yB_move ∈ pm_ws := (pm_in2 (j := 237) rfl rfl)
theorem se_B_move : Cond.selects "BayStowage" yB_move yB_move ∈ pm_ws := (pm_in2 (j := 238) rfl rfl)
theorem mo_B_requireMove : pm_Mo mB_requireMove 1 := ⟨pm_in3 (j := 3) rfl rfl, by decide +kernel, ⟨by decide, by decide⟩, by decide +kernel, (pm_in1 (j := 1) rfl rfl), by decide, rfl⟩
theorem im_B_requireMove : Cond.instanceMethod yB_requireMove ∈ pm_ws := (pm_in3 (j := 2) rfl rfl)
theorem se_B_requireMove : Cond.selects "BayStowage" yB_requireMove yB_requireMove ∈ pm_ws := pm_inS (j := 31) rfl rfl
theorem mo_T_has : pm_Mo mT_has 1 := ⟨pm_in3 (j := 7) rfl rfl, by decide +kernel, ⟨by decide, by decide⟩, by decide +kernel, (pm_in1 (j := 5) rfl rfl), by decide, rfl⟩
theorem im_T_has : Cond.instanceMethod yT_has ∈ pm_ws := (pm_in3 (j := 6) rfl rfl)
theorem se_T_has : Cond.selects "BayStowage$Script" yT_has yT_has ∈ pm_ws := pm_inS (j := 32) rfl rfl
theorem st_L_hand : Cond.static yL_hand ∈ pm_ws := (pm_in3 (j := 25) rfl rfl)
theorem mo_B_hand : pm_Mo mB_hand 2 := ⟨pm_in3 (j := 30) rfl rfl, by decide +kernel, ⟨by decide, by decide⟩, by decide +kernel, (pm_in1 (j := 1) rfl rfl), by decide, rfl⟩
theorem im_B_hand : Cond.instanceMethod yB_hand ∈ pm_ws := (pm_in3 (j := 28) rfl rfl)
theorem se_B_hand : Cond.selects "BayStowage" yB_hand yB_hand ∈ pm_ws := (pm_in3 (j := 29) rfl rfl)
theorem mo_T_putsOn : pm_Mo mT_putsOn 1 := ⟨pm_in3 (j := 34) rfl rfl, by decide +kernel, ⟨by decide, by decide⟩, by decide +kernel, (pm_in1 (j := 5) rfl rfl), by decide, rfl⟩
theorem im_T_putsOn : Cond.instanceMethod yT_putsOn ∈ pm_ws := (pm_in3 (j := 33) rfl rfl)
theorem se_T_putsOn : Cond.selects "BayStowage$Script" yT_putsOn yT_putsOn ∈ pm_ws := pm_inS (j := 33) rfl rfl
theorem st_L_replay : Cond.static yL_replay ∈ pm_ws := (pm_in3 (j := 36) rfl rfl)
theorem mo_B_replay : pm_Mo mB_replay 1 := ⟨pm_in3 (j := 41) rfl rfl, by decide +kernel, ⟨by decide, by decide⟩, by decide +kernel, (pm_in1 (j := 1) rfl rfl), by decide, rfl⟩
theorem im_B_replay : Cond.instanceMethod yB_replay ∈ pm_ws := (pm_in3 (j := 39) rfl rfl)
theorem se_B_replay : Cond.selects "BayStowage" yB_replay yB_replay ∈ pm_ws := (pm_in3 (j := 40) rfl rfl)
theorem mo_H_does : pm_Mo mH_does 2 := ⟨pm_in3 (j := 45) rfl rfl, by decide +kernel, ⟨by decide, by decide⟩, by decide +kernel, (pm_in1 (j := 3) rfl rfl), by decide, rfl⟩
theorem im_H_does : Cond.instanceMethod yH_does ∈ pm_ws := (pm_in3 (j := 44) rfl rfl)
theorem se_H_does : Cond.selects "BayStowage$Hold" yH_does yH_does ∈ pm_ws := pm_inS (j := 34) rfl rfl
theorem mo_H_loads : pm_Mo mH_loads 2 := ⟨pm_in3 (j := 50) rfl rfl, by decide +kernel, ⟨by decide, by decide⟩, by decide +kernel, (pm_in1 (j := 3) rfl rfl), by decide, rfl⟩
theorem im_H_loads : Cond.instanceMethod yH_loads ∈ pm_ws := (pm_in3 (j := 49) rfl rfl)
theorem se_H_loads : Cond.selects "BayStowage$Hold" yH_loads yH_loads ∈ pm_ws := pm_inS (j := 35) rfl rfl
theorem mo_H_isAboard : pm_Mo mH_isAboard 1 := ⟨pm_in3 (j := 55) rfl rfl, by decide +kernel, ⟨by decide, by decide⟩, by decide +kernel, (pm_in1 (j := 3) rfl rfl), by decide, rfl⟩
theorem im_H_isAboard : Cond.instanceMethod yH_isAboard ∈ pm_ws := (pm_in3 (j := 54) rfl rfl)
theorem se_H_isAboard : Cond.selects "BayStowage$Hold" yH_isAboard yH_isAboard ∈ pm_ws := pm_inS (j := 36) rfl rfl
theorem mo_H_aboard : pm_Mo mH_aboard 0 := ⟨pm_in3 (j := 59) rfl rfl, by decide +kernel, ⟨by decide, by decide⟩, by decide +kernel, (pm_in1 (j := 3) rfl rfl), by decide, rfl⟩
theorem im_H_aboard : Cond.instanceMethod yH_aboard ∈ pm_ws := (pm_in3 (j := 58) rfl rfl)
theorem se_H_aboard : Cond.selects "BayStowage$Hold" yH_aboard yH_aboard ∈ pm_ws := pm_inS (j := 37) rfl rfl
theorem mo_H_unloads : pm_Mo mH_unloads 2 := ⟨pm_in3 (j := 64) rfl rfl, by decide +kernel, ⟨by decide, by decide⟩, by decide +kernel, (pm_in1 (j := 3) rfl rfl), by decide, rfl⟩
theorem im_H_unloads : Cond.instanceMethod yH_unloads ∈ pm_ws := (pm_in3 (j := 63) rfl rfl)
theorem se_H_unloads : Cond.selects "BayStowage$Hold" yH_unloads yH_unloads ∈ pm_ws := pm_inS (j := 38) rfl rfl
theorem mo_H_boxAt : pm_Mo mH_boxAt 2 := ⟨pm_in3 (j := 68) rfl rfl, by decide +kernel, ⟨by decide, by decide⟩, by decide +kernel, (pm_in1 (j := 3) rfl rfl), by decide, rfl⟩
theorem im_H_boxAt : Cond.instanceMethod yH_boxAt ∈ pm_ws := (pm_in3 (j := 67) rfl rfl)
theorem se_H_boxAt : Cond.selects "BayStowage$Hold" yH_boxAt yH_boxAt ∈ pm_ws := pm_inS (j := 39) rfl rfl
theorem st_L_slot : Cond.static yL_slot ∈ pm_ws := (pm_in3 (j := 71) rfl rfl)
theorem mo_B_slot : pm_Mo mB_slot 2 := ⟨pm_in3 (j := 76) rfl rfl, by decide +kernel, ⟨by decide, by decide⟩, by decide +kernel, (pm_in1 (j := 1) rfl rfl), by decide, rfl⟩
theorem im_B_slot : Cond.instanceMethod yB_slot ∈ pm_ws := (pm_in3 (j := 74) rfl rfl)
theorem se_B_slot : Cond.selects "BayStowage" yB_slot yB_slot ∈ pm_ws := (pm_in3 (j := 75) rfl rfl)
theorem st_L_moment : Cond.static yL_moment ∈ pm_ws := (pm_in3 (j := 79) rfl rfl)
theorem mo_B_moment : pm_Mo mB_moment 1 := ⟨pm_in3 (j := 84) rfl rfl, by decide +kernel, ⟨by decide, by decide⟩, by decide +kernel, (pm_in1 (j := 1) rfl rfl), by decide, rfl⟩
theorem im_B_moment : Cond.instanceMethod yB_moment ∈ pm_ws := (pm_in3 (j := 82) rfl rfl)
theorem se_B_moment : Cond.selects "BayStowage" yB_moment yB_moment ∈ pm_ws := (pm_in3 (j := 83) rfl rfl)
theorem st_L_verify : Cond.static yL_verify ∈ pm_ws := (pm_in3 (j := 88) rfl rfl)
theorem mo_B_verify : pm_Mo mB_verify 0 := ⟨pm_in3 (j := 93) rfl rfl, by decide +kernel, ⟨by decide, by decide⟩, by decide +kernel, (pm_in1 (j := 1) rfl rfl), by decide, rfl⟩
theorem im_B_verify : Cond.instanceMethod yB_verify ∈ pm_ws := (pm_in3 (j := 91) rfl rfl)
theorem se_B_verify : Cond.selects "BayStowage" yB_verify yB_verify ∈ pm_ws := (pm_in3 (j := 92) rfl rfl)
theorem mo_H_mayDepart : pm_Mo mH_mayDepart 1 := ⟨pm_in3 (j := 98) rfl rfl, by decide +kernel, ⟨by decide, by decide⟩, by decide +kernel, (pm_in1 (j := 3) rfl rfl), by decide, rfl⟩
theorem im_H_mayDepart : Cond.instanceMethod yH_mayDepart ∈ pm_ws := (pm_in3 (j := 97) rfl rfl)
theorem se_H_mayDepart : Cond.selects "BayStowage$Hold" yH_mayDepart yH_mayDepart ∈ pm_ws := pm_inS (j := 40) rfl rfl
theorem st_Z_max : Cond.static yZ_max ∈ pm_ws := (pm_in3 (j := 102) rfl rfl)
theorem st_L_report : Cond.static yL_report ∈ pm_ws := (pm_in3 (j := 106) rfl rfl)
theorem mo_B_report : pm_Mo mB_report 2 := ⟨pm_in3 (j := 111) rfl rfl, by decide +kernel, ⟨by decide, by decide⟩, by decide +kernel, (pm_in1 (j := 1) rfl rfl), by decide, rfl⟩
theorem im_B_report : Cond.instanceMethod yB_report ∈ pm_ws := (pm_in3 (j := 109) rfl rfl)
theorem se_B_report : Cond.selects "BayStowage" yB_report yB_report ∈ pm_ws := (pm_in3 (j := 110) rfl rfl)
theorem mo_B_isReported : pm_Mo mB_isReported 2 := ⟨pm_in3 (j := 115) rfl rfl, by decide +kernel, ⟨by decide, by decide⟩, by decide +kernel, (pm_in1 (j := 1) rfl rfl), by decide, rfl⟩
theorem im_B_isReported : Cond.instanceMethod yB_isReported ∈ pm_ws := (pm_in3 (j := 114) rfl rfl)
theorem se_B_isReported : Cond.selects "BayStowage" yB_isReported yB_isReported ∈ pm_ws := pm_inS (j := 41) rfl rfl
theorem mo_M_init : pm_Mo mM_init 0 := ⟨pm_in3 (j := 120) rfl rfl, by decide +kernel, ⟨by decide, by decide⟩, by decide +kernel, (pm_in1 (j := 7) rfl rfl), by decide, rfl⟩
theorem im_M_init : Cond.instanceMethod yM_init ∈ pm_ws := (pm_in3 (j := 119) rfl rfl)
theorem mo_M_empty : pm_Mo mM_empty 1 := ⟨pm_in3 (j := 124) rfl rfl, by decide +kernel, ⟨by decide, by decide⟩, by decide +kernel, (pm_in1 (j := 7) rfl rfl), by decide, rfl⟩
theorem st_M_empty : Cond.static yM_empty ∈ pm_ws := (pm_in3 (j := 123) rfl rfl)
theorem mo_M_thrown : pm_Mo mM_thrown 0 := ⟨pm_in3 (j := 207) rfl rfl, by decide +kernel, ⟨by decide, by decide⟩, by decide +kernel, (pm_in1 (j := 7) rfl rfl), by decide, rfl⟩
theorem im_M_thrown : Cond.instanceMethod yM_thrown ∈ pm_ws := (pm_in3 (j := 205) rfl rfl)
theorem se_M_thrown : Cond.selects "BayStowageModel" yM_thrown yM_thrown ∈ pm_ws := (pm_in3 (j := 206) rfl rfl)
theorem mo_M_bay : pm_Mo mM_bay 6 := ⟨pm_in3 (j := 211) rfl rfl, by decide +kernel, ⟨by decide, by decide⟩, by decide +kernel, (pm_in1 (j := 7) rfl rfl), by decide, rfl⟩
theorem im_M_bay : Cond.instanceMethod yM_bay ∈ pm_ws := (pm_in3 (j := 209) rfl rfl)
theorem se_M_bay : Cond.selects "BayStowageModel" yM_bay yM_bay ∈ pm_ws := (pm_in3 (j := 210) rfl rfl)
theorem mo_M_in : pm_Mo mM_in 3 := ⟨pm_in3 (j := 214) rfl rfl, by decide +kernel, ⟨by decide, by decide⟩, by decide +kernel, (pm_in1 (j := 7) rfl rfl), by decide, rfl⟩
theorem st_M_in : Cond.static yM_in ∈ pm_ws := (pm_in3 (j := 213) rfl rfl)
theorem mo_M_refuse : pm_Mo mM_refuse 2 := ⟨pm_in3 (j := 218) rfl rfl, by decide +kernel, ⟨by decide, by decide⟩, by decide +kernel, (pm_in1 (j := 7) rfl rfl), by decide, rfl⟩
theorem im_M_refuse : Cond.instanceMethod yM_refuse ∈ pm_ws := (pm_in3 (j := 217) rfl rfl)
theorem se_M_refuse : Cond.selects "BayStowageModel" yM_refuse yM_refuse ∈ pm_ws := pm_inS (j := 42) rfl rfl
theorem mo_M_noPlan : pm_Mo mM_noPlan 0 := ⟨pm_in3 (j := 222) rfl rfl, by decide +kernel, ⟨by decide, by decide⟩, by decide +kernel, (pm_in1 (j := 7) rfl rfl), by decide, rfl⟩
theorem im_M_noPlan : Cond.instanceMethod yM_noPlan ∈ pm_ws := (pm_in3 (j := 221) rfl rfl)
theorem se_M_noPlan : Cond.selects "BayStowageModel" yM_noPlan yM_noPlan ∈ pm_ws := pm_inS (j := 43) rfl rfl
theorem mo_M_plug : pm_Mo mM_plug 2 := ⟨pm_in3 (j := 226) rfl rfl, by decide +kernel, ⟨by decide, by decide⟩, by decide +kernel, (pm_in1 (j := 7) rfl rfl), by decide, rfl⟩
theorem im_M_plug : Cond.instanceMethod yM_plug ∈ pm_ws := (pm_in3 (j := 224) rfl rfl)
theorem se_M_plug : Cond.selects "BayStowageModel" yM_plug yM_plug ∈ pm_ws := (pm_in3 (j := 225) rfl rfl)
theorem mo_M_isStack : pm_Mo mM_isStack 1 := ⟨pm_in3 (j := 230) rfl rfl, by decide +kernel, ⟨by decide, by decide⟩, by decide +kernel, (pm_in1 (j := 7) rfl rfl), by decide, rfl⟩
theorem im_M_isStack : Cond.instanceMethod yM_isStack ∈ pm_ws := (pm_in3 (j := 229) rfl rfl)
theorem se_M_isStack : Cond.selects "BayStowageModel" yM_isStack yM_isStack ∈ pm_ws := pm_inS (j := 44) rfl rfl
theorem mo_M_box : pm_Mo mM_box 4 := ⟨pm_in3 (j := 234) rfl rfl, by decide +kernel, ⟨by decide, by decide⟩, by decide +kernel, (pm_in1 (j := 7) rfl rfl), by decide, rfl⟩
theorem im_M_box : Cond.instanceMethod yM_box ∈ pm_ws := (pm_in3 (j := 232) rfl rfl)
theorem se_M_box : Cond.selects "BayStowageModel" yM_box yM_box ∈ pm_ws := (pm_in3 (j := 233) rfl rfl)
theorem mo_M_roll : pm_Mo mM_roll 1 := ⟨pm_in3 (j := 238) rfl rfl, by decide +kernel, ⟨by decide, by decide⟩, by decide +kernel, (pm_in1 (j := 7) rfl rfl), by decide, rfl⟩
theorem im_M_roll : Cond.instanceMethod yM_roll ∈ pm_ws := (pm_in3 (j := 236) rfl rfl)
theorem se_M_roll : Cond.selects "BayStowageModel" yM_roll yM_roll ∈ pm_ws := (pm_in3 (j := 237) rfl rfl)
theorem mo_M_plan : pm_Mo mM_plan 0 := ⟨pm_in4 (j := 2) rfl rfl, by decide +kernel, ⟨by decide, by decide⟩, by decide +kernel, (pm_in1 (j := 7) rfl rfl), by decide, rfl⟩
theorem im_M_plan : Cond.instanceMethod yM_plan ∈ pm_ws := (pm_in4 (j := 0) rfl rfl)
theorem se_M_plan : Cond.selects "BayStowageModel" yM_plan yM_plan ∈ pm_ws := (pm_in4 (j := 1) rfl rfl)
theorem mo_M_listAll : pm_Mo mM_listAll 1 := ⟨pm_in4 (j := 6) rfl rfl, by decide +kernel, ⟨by decide, by decide⟩, by decide +kernel, (pm_in1 (j := 7) rfl rfl), by decide, rfl⟩
theorem im_M_listAll : Cond.instanceMethod yM_listAll ∈ pm_ws := (pm_in4 (j := 5) rfl rfl)
theorem se_M_listAll : Cond.selects "BayStowageModel" yM_listAll yM_listAll ∈ pm_ws := pm_inS (j := 45) rfl rfl
theorem mo_M_may : pm_Mo mM_may 3 := ⟨pm_in4 (j := 10) rfl rfl, by decide +kernel, ⟨by decide, by decide⟩, by decide +kernel, (pm_in1 (j := 7) rfl rfl), by decide, rfl⟩
theorem im_M_may : Cond.instanceMethod yM_may ∈ pm_ws := (pm_in4 (j := 9) rfl rfl)
theorem se_M_may : Cond.selects "BayStowageModel" yM_may yM_may ∈ pm_ws := pm_inS (j := 46) rfl rfl
theorem mo_M_isAboard : pm_Mo mM_isAboard 2 := ⟨pm_in4 (j := 14) rfl rfl, by decide +kernel, ⟨by decide, by decide⟩, by decide +kernel, (pm_in1 (j := 7) rfl rfl), by decide, rfl⟩
theorem im_M_isAboard : Cond.instanceMethod yM_isAboard ∈ pm_ws := (pm_in4 (j := 13) rfl rfl)
theorem se_M_isAboard : Cond.selects "BayStowageModel" yM_isAboard yM_isAboard ∈ pm_ws := pm_inS (j := 47) rfl rfl
theorem mo_M_isIn : pm_Mo mM_isIn 3 := ⟨pm_in4 (j := 18) rfl rfl, by decide +kernel, ⟨by decide, by decide⟩, by decide +kernel, (pm_in1 (j := 7) rfl rfl), by decide, rfl⟩
theorem im_M_isIn : Cond.instanceMethod yM_isIn ∈ pm_ws := (pm_in4 (j := 17) rfl rfl)
theorem se_M_isIn : Cond.selects "BayStowageModel" yM_isIn yM_isIn ∈ pm_ws := pm_inS (j := 48) rfl rfl
theorem mo_M_hasAll : pm_Mo mM_hasAll 2 := ⟨pm_in4 (j := 22) rfl rfl, by decide +kernel, ⟨by decide, by decide⟩, by decide +kernel, (pm_in1 (j := 7) rfl rfl), by decide, rfl⟩
theorem im_M_hasAll : Cond.instanceMethod yM_hasAll ∈ pm_ws := (pm_in4 (j := 21) rfl rfl)
theorem se_M_hasAll : Cond.selects "BayStowageModel" yM_hasAll yM_hasAll ∈ pm_ws := pm_inS (j := 49) rfl rfl
theorem mo_M_isSound : pm_Mo mM_isSound 1 := ⟨pm_in4 (j := 26) rfl rfl, by decide +kernel, ⟨by decide, by decide⟩, by decide +kernel, (pm_in1 (j := 7) rfl rfl), by decide, rfl⟩
theorem im_M_isSound : Cond.instanceMethod yM_isSound ∈ pm_ws := (pm_in4 (j := 25) rfl rfl)
theorem se_M_isSound : Cond.selects "BayStowageModel" yM_isSound yM_isSound ∈ pm_ws := pm_inS (j := 50) rfl rfl
theorem mo_M_listOf : pm_Mo mM_listOf 1 := ⟨pm_in4 (j := 30) rfl rfl, by decide +kernel, ⟨by decide, by decide⟩, by decide +kernel, (pm_in1 (j := 7) rfl rfl), by decide, rfl⟩
theorem im_M_listOf : Cond.instanceMethod yM_listOf ∈ pm_ws := (pm_in4 (j := 29) rfl rfl)
theorem se_M_listOf : Cond.selects "BayStowageModel" yM_listOf yM_listOf ∈ pm_ws := pm_inS (j := 51) rfl rfl
theorem mo_M_weightOf : pm_Mo mM_weightOf 2 := ⟨pm_in4 (j := 34) rfl rfl, by decide +kernel, ⟨by decide, by decide⟩, by decide +kernel, (pm_in1 (j := 7) rfl rfl), by decide, rfl⟩
theorem im_M_weightOf : Cond.instanceMethod yM_weightOf ∈ pm_ws := (pm_in4 (j := 33) rfl rfl)
theorem se_M_weightOf : Cond.selects "BayStowageModel" yM_weightOf yM_weightOf ∈ pm_ws := pm_inS (j := 52) rfl rfl
theorem mo_M_verticalOf : pm_Mo mM_verticalOf 1 := ⟨pm_in4 (j := 38) rfl rfl, by decide +kernel, ⟨by decide, by decide⟩, by decide +kernel, (pm_in1 (j := 7) rfl rfl), by decide, rfl⟩
theorem im_M_verticalOf : Cond.instanceMethod yM_verticalOf ∈ pm_ws := (pm_in4 (j := 37) rfl rfl)
theorem se_M_verticalOf : Cond.selects "BayStowageModel" yM_verticalOf yM_verticalOf ∈ pm_ws := pm_inS (j := 53) rfl rfl
theorem mo_M_hasKind : pm_Mo mM_hasKind 3 := ⟨pm_in4 (j := 42) rfl rfl, by decide +kernel, ⟨by decide, by decide⟩, by decide +kernel, (pm_in1 (j := 7) rfl rfl), by decide, rfl⟩
theorem im_M_hasKind : Cond.instanceMethod yM_hasKind ∈ pm_ws := (pm_in4 (j := 41) rfl rfl)
theorem se_M_hasKind : Cond.selects "BayStowageModel" yM_hasKind yM_hasKind ∈ pm_ws := pm_inS (j := 54) rfl rfl
theorem mo_M_packed : pm_Mo mM_packed 0 := ⟨pm_in4 (j := 46) rfl rfl, by decide +kernel, ⟨by decide, by decide⟩, by decide +kernel, (pm_in1 (j := 7) rfl rfl), by decide, rfl⟩
theorem im_M_packed : Cond.instanceMethod yM_packed ∈ pm_ws := (pm_in4 (j := 45) rfl rfl)
theorem se_M_packed : Cond.selects "BayStowageModel" yM_packed yM_packed ∈ pm_ws := pm_inS (j := 55) rfl rfl
theorem mo_M_reckon : pm_Mo mM_reckon 1 := ⟨pm_in4 (j := 50) rfl rfl, by decide +kernel, ⟨by decide, by decide⟩, by decide +kernel, (pm_in1 (j := 7) rfl rfl), by decide, rfl⟩
theorem im_M_reckon : Cond.instanceMethod yM_reckon ∈ pm_ws := (pm_in4 (j := 49) rfl rfl)
theorem se_M_reckon : Cond.selects "BayStowageModel" yM_reckon yM_reckon ∈ pm_ws := pm_inS (j := 56) rfl rfl
theorem mo_M_shifts : pm_Mo mM_shifts 2 := ⟨pm_in4 (j := 53) rfl rfl, by decide +kernel, ⟨by decide, by decide⟩, by decide +kernel, (pm_in1 (j := 7) rfl rfl), by decide, rfl⟩
theorem st_M_shifts : Cond.static yM_shifts ∈ pm_ws := (pm_in4 (j := 52) rfl rfl)
theorem mo_M_stays : pm_Mo mM_stays 3 := ⟨pm_in4 (j := 56) rfl rfl, by decide +kernel, ⟨by decide, by decide⟩, by decide +kernel, (pm_in1 (j := 7) rfl rfl), by decide, rfl⟩
theorem st_M_stays : Cond.static yM_stays ∈ pm_ws := (pm_in4 (j := 55) rfl rfl)
theorem mo_M_boxAt : pm_Mo mM_boxAt 2 := ⟨pm_in4 (j := 59) rfl rfl, by decide +kernel, ⟨by decide, by decide⟩, by decide +kernel, (pm_in1 (j := 7) rfl rfl), by decide, rfl⟩
theorem st_M_boxAt : Cond.static yM_boxAt ∈ pm_ws := (pm_in4 (j := 58) rfl rfl)
theorem mo_M_has : pm_Mo mM_has 2 := ⟨pm_in4 (j := 62) rfl rfl, by decide +kernel, ⟨by decide, by decide⟩, by decide +kernel, (pm_in1 (j := 7) rfl rfl), by decide, rfl⟩
theorem st_M_has : Cond.static yM_has ∈ pm_ws := (pm_in4 (j := 61) rfl rfl)
theorem mo_M_choose : pm_Mo mM_choose 3 := ⟨pm_in4 (j := 66) rfl rfl, by decide +kernel, ⟨by decide, by decide⟩, by decide +kernel, (pm_in1 (j := 7) rfl rfl), by decide, rfl⟩
theorem im_M_choose : Cond.instanceMethod yM_choose ∈ pm_ws := (pm_in4 (j := 65) rfl rfl)
theorem se_M_choose : Cond.selects "BayStowageModel" yM_choose yM_choose ∈ pm_ws := pm_inS (j := 57) rfl rfl
theorem mo_M_change : pm_Mo mM_change 3 := ⟨pm_in4 (j := 70) rfl rfl, by decide +kernel, ⟨by decide, by decide⟩, by decide +kernel, (pm_in1 (j := 7) rfl rfl), by decide, rfl⟩
theorem im_M_change : Cond.instanceMethod yM_change ∈ pm_ws := (pm_in4 (j := 69) rfl rfl)
theorem se_M_change : Cond.selects "BayStowageModel" yM_change yM_change ∈ pm_ws := pm_inS (j := 58) rfl rfl
theorem mo_M_add : pm_Mo mM_add 4 := ⟨pm_in4 (j := 74) rfl rfl, by decide +kernel, ⟨by decide, by decide⟩, by decide +kernel, (pm_in1 (j := 7) rfl rfl), by decide, rfl⟩
theorem im_M_add : Cond.instanceMethod yM_add ∈ pm_ws := (pm_in4 (j := 73) rfl rfl)
theorem se_M_add : Cond.selects "BayStowageModel" yM_add yM_add ∈ pm_ws := pm_inS (j := 59) rfl rfl
theorem mo_M_moves : pm_Mo mM_moves 0 := ⟨pm_in4 (j := 78) rfl rfl, by decide +kernel, ⟨by decide, by decide⟩, by decide +kernel, (pm_in1 (j := 7) rfl rfl), by decide, rfl⟩
theorem im_M_moves : Cond.instanceMethod yM_moves ∈ pm_ws := (pm_in4 (j := 76) rfl rfl)
theorem se_M_moves : Cond.selects "BayStowageModel" yM_moves yM_moves ∈ pm_ws := (pm_in4 (j := 77) rfl rfl)
theorem mo_M_move : pm_Mo mM_move 2 := ⟨pm_in4 (j := 82) rfl rfl, by decide +kernel, ⟨by decide, by decide⟩, by decide +kernel, (pm_in1 (j := 7) rfl rfl), by decide, rfl⟩
theorem im_M_move : Cond.instanceMethod yM_move ∈ pm_ws := (pm_in4 (j := 80) rfl rfl)
theorem se_M_move : Cond.selects "BayStowageModel" yM_move yM_move ∈ pm_ws := (pm_in4 (j := 81) rfl rfl)
theorem mo_M_hand : pm_Mo mM_hand 2 := ⟨pm_in4 (j := 86) rfl rfl, by decide +kernel, ⟨by decide, by decide⟩, by decide +kernel, (pm_in1 (j := 7) rfl rfl), by decide, rfl⟩
theorem im_M_hand : Cond.instanceMethod yM_hand ∈ pm_ws := (pm_in4 (j := 84) rfl rfl)
theorem se_M_hand : Cond.selects "BayStowageModel" yM_hand yM_hand ∈ pm_ws := (pm_in4 (j := 85) rfl rfl)
theorem mo_M_replay : pm_Mo mM_replay 1 := ⟨pm_in4 (j := 90) rfl rfl, by decide +kernel, ⟨by decide, by decide⟩, by decide +kernel, (pm_in1 (j := 7) rfl rfl), by decide, rfl⟩
theorem im_M_replay : Cond.instanceMethod yM_replay ∈ pm_ws := (pm_in4 (j := 88) rfl rfl)
theorem se_M_replay : Cond.selects "BayStowageModel" yM_replay yM_replay ∈ pm_ws := (pm_in4 (j := 89) rfl rfl)
theorem mo_M_act : pm_Mo mM_act 2 := ⟨pm_in4 (j := 94) rfl rfl, by decide +kernel, ⟨by decide, by decide⟩, by decide +kernel, (pm_in1 (j := 7) rfl rfl), by decide, rfl⟩
theorem im_M_act : Cond.instanceMethod yM_act ∈ pm_ws := (pm_in4 (j := 93) rfl rfl)
theorem se_M_act : Cond.selects "BayStowageModel" yM_act yM_act ∈ pm_ws := pm_inS (j := 60) rfl rfl
theorem mo_M_height : pm_Mo mM_height 2 := ⟨pm_in4 (j := 98) rfl rfl, by decide +kernel, ⟨by decide, by decide⟩, by decide +kernel, (pm_in1 (j := 7) rfl rfl), by decide, rfl⟩
theorem im_M_height : Cond.instanceMethod yM_height ∈ pm_ws := (pm_in4 (j := 97) rfl rfl)
theorem se_M_height : Cond.selects "BayStowageModel" yM_height yM_height ∈ pm_ws := pm_inS (j := 61) rfl rfl
theorem mo_M_slot : pm_Mo mM_slot 2 := ⟨pm_in4 (j := 102) rfl rfl, by decide +kernel, ⟨by decide, by decide⟩, by decide +kernel, (pm_in1 (j := 7) rfl rfl), by decide, rfl⟩
theorem im_M_slot : Cond.instanceMethod yM_slot ∈ pm_ws := (pm_in4 (j := 100) rfl rfl)
theorem se_M_slot : Cond.selects "BayStowageModel" yM_slot yM_slot ∈ pm_ws := (pm_in4 (j := 101) rfl rfl)
theorem mo_M_moment : pm_Mo mM_moment 1 := ⟨pm_in4 (j := 106) rfl rfl, by decide +kernel, ⟨by decide, by decide⟩, by decide +kernel, (pm_in1 (j := 7) rfl rfl), by decide, rfl⟩
theorem im_M_moment : Cond.instanceMethod yM_moment ∈ pm_ws := (pm_in4 (j := 104) rfl rfl)
theorem se_M_moment : Cond.selects "BayStowageModel" yM_moment yM_moment ∈ pm_ws := (pm_in4 (j := 105) rfl rfl)
theorem mo_M_verify : pm_Mo mM_verify 0 := ⟨pm_in4 (j := 110) rfl rfl, by decide +kernel, ⟨by decide, by decide⟩, by decide +kernel, (pm_in1 (j := 7) rfl rfl), by decide, rfl⟩
theorem im_M_verify : Cond.instanceMethod yM_verify ∈ pm_ws := (pm_in4 (j := 108) rfl rfl)
theorem se_M_verify : Cond.selects "BayStowageModel" yM_verify yM_verify ∈ pm_ws := (pm_in4 (j := 109) rfl rfl)
theorem mo_M_report : pm_Mo mM_report 2 := ⟨pm_in4 (j := 114) rfl rfl, by decide +kernel, ⟨by decide, by decide⟩, by decide +kernel, (pm_in1 (j := 7) rfl rfl), by decide, rfl⟩
theorem im_M_report : Cond.instanceMethod yM_report ∈ pm_ws := (pm_in4 (j := 112) rfl rfl)
theorem se_M_report : Cond.selects "BayStowageModel" yM_report yM_report ∈ pm_ws := (pm_in4 (j := 113) rfl rfl)
theorem lk_L_56 : pm_Lk "BayStowageLaw" 56 yB_init := Or.inl (pm_in1 (j := 19) rfl rfl)
theorem lk_B_11 : pm_Lk "BayStowage" 11 yS_init := Or.inr ⟨"BayStowage", pm_nn1 (j := 27) rfl rfl⟩
theorem lk_B_12 : pm_Lk "BayStowage" 12 yS_refit := Or.inr ⟨"BayStowage", pm_nn1 (j := 90) rfl rfl⟩
theorem lk_B_22 : pm_Lk "BayStowage" 22 yH_init := Or.inr ⟨"BayStowage", pm_nn1 (j := 96) rfl rfl⟩
theorem lk_H_25 : pm_Lk "BayStowage$Hold" 25 yA_fill := Or.inl (pm_in1 (j := 100) rfl rfl)
theorem lk_B_34 : pm_Lk "BayStowage" 34 yT_init := Or.inr ⟨"BayStowage", pm_nn1 (j := 124) rfl rfl⟩
theorem lk_B_41 : pm_Lk "BayStowage" 41 yP_init := Or.inr ⟨"BayStowage", pm_nn1 (j := 154) rfl rfl⟩
theorem lk_P_33 : pm_Lk "BayStowage$Planner" 33 yH_init := Or.inr ⟨"BayStowage", pm_nn1 (j := 159) rfl rfl⟩
theorem lk_L_81 : pm_Lk "BayStowageLaw" 81 yB_plan := Or.inl (pm_in1 (j := 204) rfl rfl)
theorem lk_B_54 : pm_Lk "BayStowage" 54 yB_dropPlan := Or.inl (pm_in1 (j := 208) rfl rfl)
theorem lk_B_179 : pm_Lk "BayStowage" 179 yT_clear := Or.inr ⟨"BayStowage", pm_nn1 (j := 212) rfl rfl⟩
theorem lk_B_127 : pm_Lk "BayStowage" 127 yH_clear := Or.inr ⟨"BayStowage", pm_nn1 (j := 216) rfl rfl⟩
theorem lk_B_85 : pm_Lk "BayStowage" 85 yP_listAll := Or.inr ⟨"BayStowage", pm_nn1 (j := 220) rfl rfl⟩
theorem lk_P_48 : pm_Lk "BayStowage$Planner" 48 yS_departures := Or.inr ⟨"BayStowage", pm_nn1 (j := 224) rfl rfl⟩
theorem lk_P_82 : pm_Lk "BayStowage$Planner" 82 yP_sameBoxes := Or.inl (pm_in1 (j := 228) rfl rfl)
theorem lk_P_89 : pm_Lk "BayStowage$Planner" 89 yS_dueAt := Or.inr ⟨"BayStowage", pm_nn1 (j := 232) rfl rfl⟩
theorem lk_P_86 : pm_Lk "BayStowage$Planner" 86 yH_clear := Or.inr ⟨"BayStowage", pm_nn1 (j := 236) rfl rfl⟩
theorem lk_P_93 : pm_Lk "BayStowage$Planner" 93 yP_listFrom := Or.inl (pm_in1 (j := 237) rfl rfl)
theorem lk_P_97 : pm_Lk "BayStowage$Planner" 97 yP_listBehind := Or.inl (pm_in2 (j := 1) rfl rfl)
theorem lk_P_108 : pm_Lk "BayStowage$Planner" 108 yH_isSound := Or.inr ⟨"BayStowage", pm_nn2 (j := 5) rfl rfl⟩
theorem lk_H_104 : pm_Lk "BayStowage$Hold" 104 yH_signedList := Or.inl (pm_in2 (j := 9) rfl rfl)
theorem lk_H_107 : pm_Lk "BayStowage$Hold" 107 yZ_abs := Or.inl (pm_in2 (j := 13) rfl rfl)
theorem lk_H_115 : pm_Lk "BayStowage$Hold" 115 yH_isSoundStack := Or.inl (pm_in2 (j := 16) rfl rfl)
theorem lk_H_118 : pm_Lk "BayStowage$Hold" 118 yH_holds := Or.inl (pm_in2 (j := 20) rfl rfl)
theorem lk_P_112 : pm_Lk "BayStowage$Planner" 112 yC_of := Or.inr ⟨"BayStowage", pm_nn2 (j := 24) rfl rfl⟩
theorem lk_P_100 : pm_Lk "BayStowage$Planner" 100 yH_hasRoom := Or.inr ⟨"BayStowage", pm_nn2 (j := 27) rfl rfl⟩
theorem lk_H_35 : pm_Lk "BayStowage$Hold" 35 yS_hasStack := Or.inr ⟨"BayStowage", pm_nn2 (j := 31) rfl rfl⟩
theorem lk_S_53 : pm_Lk "BayStowage$Ship" 53 yB_within := Or.inr ⟨"BayStowage", pm_nn2 (j := 35) rfl rfl⟩
theorem lk_P_104 : pm_Lk "BayStowage$Planner" 104 yP_listWith := Or.inl (pm_in2 (j := 38) rfl rfl)
theorem lk_P_116 : pm_Lk "BayStowage$Planner" 116 yH_stow := Or.inr ⟨"BayStowage", pm_nn2 (j := 42) rfl rfl⟩
theorem lk_P_119 : pm_Lk "BayStowage$Planner" 119 yH_unstow := Or.inr ⟨"BayStowage", pm_nn2 (j := 46) rfl rfl⟩
theorem lk_B_89 : pm_Lk "BayStowage" 89 yP_chooseAll := Or.inr ⟨"BayStowage", pm_nn2 (j := 50) rfl rfl⟩
theorem lk_P_122 : pm_Lk "BayStowage$Planner" 122 yA_fill := Or.inl (pm_in2 (j := 54) rfl rfl)
theorem lk_P_128 : pm_Lk "BayStowage$Planner" 128 yP_chooses := Or.inl (pm_in2 (j := 55) rfl rfl)
theorem lk_P_132 : pm_Lk "BayStowage$Planner" 132 yP_staying := Or.inl (pm_in2 (j := 59) rfl rfl)
theorem lk_P_141 : pm_Lk "BayStowage$Planner" 141 yI_bitCount := Or.inl (pm_in2 (j := 63) rfl rfl)
theorem lk_P_135 : pm_Lk "BayStowage$Planner" 135 yC_kept := Or.inr ⟨"BayStowage", pm_nn2 (j := 69) rfl rfl⟩
theorem lk_C_17 : pm_Lk "BayStowage$Code" 17 yC_keptIn := Or.inl (pm_in2 (j := 72) rfl rfl)
theorem lk_C_21 : pm_Lk "BayStowage$Code" 21 yC_boxIn := Or.inl (pm_in2 (j := 75) rfl rfl)
theorem lk_P_138 : pm_Lk "BayStowage$Planner" 138 yP_goesOn := Or.inl (pm_in2 (j := 78) rfl rfl)
theorem lk_B_93 : pm_Lk "BayStowage" 93 yP_writeInto := Or.inr ⟨"BayStowage", pm_nn2 (j := 82) rfl rfl⟩
theorem lk_P_52 : pm_Lk "BayStowage$Planner" 52 yP_writeTakenOff := Or.inl (pm_in2 (j := 86) rfl rfl)
theorem lk_P_62 : pm_Lk "BayStowage$Planner" 62 yC_keptIn := Or.inr ⟨"BayStowage", pm_nn2 (j := 90) rfl rfl⟩
theorem lk_P_66 : pm_Lk "BayStowage$Planner" 66 yC_heightOf := Or.inr ⟨"BayStowage", pm_nn2 (j := 91) rfl rfl⟩
theorem lk_P_70 : pm_Lk "BayStowage$Planner" 70 yC_boxIn := Or.inr ⟨"BayStowage", pm_nn2 (j := 94) rfl rfl⟩
theorem lk_P_73 : pm_Lk "BayStowage$Planner" 73 yT_add := Or.inr ⟨"BayStowage", pm_nn2 (j := 95) rfl rfl⟩
theorem lk_P_56 : pm_Lk "BayStowage$Planner" 56 yP_writePutOn := Or.inl (pm_in2 (j := 99) rfl rfl)
theorem lk_L_85 : pm_Lk "BayStowageLaw" 85 yB_moves := Or.inl (pm_in2 (j := 103) rfl rfl)
theorem lk_L_60 : pm_Lk "BayStowageLaw" 60 yL_bay := Or.inl (pm_in2 (j := 107) rfl rfl)
theorem lk_L_7 : pm_Lk "BayStowageLaw" 7 yB_bay := Or.inl (pm_in2 (j := 111) rfl rfl)
theorem lk_B_46 : pm_Lk "BayStowage" 46 yB_within := Or.inl (pm_in2 (j := 115) rfl rfl)
theorem lk_B_50 : pm_Lk "BayStowage" 50 yB_require := Or.inl (pm_in2 (j := 116) rfl rfl)
theorem lk_L_69 : pm_Lk "BayStowageLaw" 69 yL_plug := Or.inl (pm_in2 (j := 182) rfl rfl)
theorem lk_L_15 : pm_Lk "BayStowageLaw" 15 yB_plug := Or.inl (pm_in2 (j := 185) rfl rfl)
theorem lk_B_57 : pm_Lk "BayStowage" 57 yS_hasStack := Or.inr ⟨"BayStowage", pm_nn2 (j := 189) rfl rfl⟩
theorem lk_L_73 : pm_Lk "BayStowageLaw" 73 yL_box := Or.inl (pm_in2 (j := 190) rfl rfl)
theorem lk_L_19 : pm_Lk "BayStowageLaw" 19 yB_box := Or.inl (pm_in2 (j := 194) rfl rfl)
theorem lk_B_65 : pm_Lk "BayStowage" 65 yS_hasPort := Or.inr ⟨"BayStowage", pm_nn2 (j := 198) rfl rfl⟩
theorem lk_B_75 : pm_Lk "BayStowage" 75 yS_book := Or.inr ⟨"BayStowage", pm_nn2 (j := 217) rfl rfl⟩
theorem lk_L_77 : pm_Lk "BayStowageLaw" 77 yL_roll := Or.inl (pm_in2 (j := 221) rfl rfl)
theorem lk_L_25 : pm_Lk "BayStowageLaw" 25 yB_roll := Or.inl (pm_in2 (j := 224) rfl rfl)
theorem lk_B_79 : pm_Lk "BayStowage" 79 yS_hasBox := Or.inr ⟨"BayStowage", pm_nn2 (j := 228) rfl rfl⟩
theorem lk_L_89 : pm_Lk "BayStowageLaw" 89 yL_move := Or.inl (pm_in2 (j := 232) rfl rfl)
theorem lk_L_29 : pm_Lk "BayStowageLaw" 29 yB_move := Or.inl (pm_in2 (j := 236) rfl rfl)
theorem lk_B_104 : pm_Lk "BayStowage" 104 yB_requireMove := Or.inl (pm_in3 (j := 0) rfl rfl)
theorem lk_B_180 : pm_Lk "BayStowage" 180 yT_has := Or.inr ⟨"BayStowage", pm_nn3 (j := 4) rfl rfl⟩
theorem lk_T_28 : pm_Lk "BayStowage$Script" 28 yB_within := Or.inr ⟨"BayStowage", pm_nn3 (j := 8) rfl rfl⟩
theorem lk_L_93 : pm_Lk "BayStowageLaw" 93 yL_hand := Or.inl (pm_in3 (j := 24) rfl rfl)
theorem lk_L_35 : pm_Lk "BayStowageLaw" 35 yB_hand := Or.inl (pm_in3 (j := 27) rfl rfl)
theorem lk_B_124 : pm_Lk "BayStowage" 124 yT_putsOn := Or.inr ⟨"BayStowage", pm_nn3 (j := 31) rfl rfl⟩
theorem lk_L_97 : pm_Lk "BayStowageLaw" 97 yL_replay := Or.inl (pm_in3 (j := 35) rfl rfl)
theorem lk_L_39 : pm_Lk "BayStowageLaw" 39 yB_replay := Or.inl (pm_in3 (j := 38) rfl rfl)
theorem lk_B_130 : pm_Lk "BayStowage" 130 yH_does := Or.inr ⟨"BayStowage", pm_nn3 (j := 42) rfl rfl⟩
theorem lk_H_52 : pm_Lk "BayStowage$Hold" 52 yT_putsOn := Or.inr ⟨"BayStowage", pm_nn3 (j := 46) rfl rfl⟩
theorem lk_H_58 : pm_Lk "BayStowage$Hold" 58 yH_loads := Or.inl (pm_in3 (j := 47) rfl rfl)
theorem lk_H_68 : pm_Lk "BayStowage$Hold" 68 yH_hasRoom := Or.inl (pm_in3 (j := 51) rfl rfl)
theorem lk_H_71 : pm_Lk "BayStowage$Hold" 71 yH_isAboard := Or.inl (pm_in3 (j := 52) rfl rfl)
theorem lk_H_88 : pm_Lk "BayStowage$Hold" 88 yH_aboard := Or.inl (pm_in3 (j := 56) rfl rfl)
theorem lk_H_77 : pm_Lk "BayStowage$Hold" 77 yH_stow := Or.inl (pm_in3 (j := 60) rfl rfl)
theorem lk_H_65 : pm_Lk "BayStowage$Hold" 65 yH_unloads := Or.inl (pm_in3 (j := 61) rfl rfl)
theorem lk_H_81 : pm_Lk "BayStowage$Hold" 81 yH_boxAt := Or.inl (pm_in3 (j := 65) rfl rfl)
theorem lk_H_85 : pm_Lk "BayStowage$Hold" 85 yH_unstow := Or.inl (pm_in3 (j := 69) rfl rfl)
theorem lk_L_101 : pm_Lk "BayStowageLaw" 101 yL_slot := Or.inl (pm_in3 (j := 70) rfl rfl)
theorem lk_L_43 : pm_Lk "BayStowageLaw" 43 yB_slot := Or.inl (pm_in3 (j := 73) rfl rfl)
theorem lk_B_137 : pm_Lk "BayStowage" 137 yH_boxAt := Or.inr ⟨"BayStowage", pm_nn3 (j := 77) rfl rfl⟩
theorem lk_L_104 : pm_Lk "BayStowageLaw" 104 yL_moment := Or.inl (pm_in3 (j := 78) rfl rfl)
theorem lk_L_46 : pm_Lk "BayStowageLaw" 46 yB_moment := Or.inl (pm_in3 (j := 81) rfl rfl)
theorem lk_B_144 : pm_Lk "BayStowage" 144 yH_signedList := Or.inr ⟨"BayStowage", pm_nn3 (j := 85) rfl rfl⟩
theorem lk_B_150 : pm_Lk "BayStowage" 150 yH_isSound := Or.inr ⟨"BayStowage", pm_nn3 (j := 86) rfl rfl⟩
theorem lk_L_107 : pm_Lk "BayStowageLaw" 107 yL_verify := Or.inl (pm_in3 (j := 87) rfl rfl)
theorem lk_L_49 : pm_Lk "BayStowageLaw" 49 yB_verify := Or.inl (pm_in3 (j := 90) rfl rfl)
theorem lk_B_155 : pm_Lk "BayStowage" 155 yS_departures := Or.inr ⟨"BayStowage", pm_nn3 (j := 94) rfl rfl⟩
theorem lk_B_158 : pm_Lk "BayStowage" 158 yH_mayDepart := Or.inr ⟨"BayStowage", pm_nn3 (j := 95) rfl rfl⟩
theorem lk_H_95 : pm_Lk "BayStowage$Hold" 95 yS_dueAt := Or.inr ⟨"BayStowage", pm_nn3 (j := 99) rfl rfl⟩
theorem lk_H_99 : pm_Lk "BayStowage$Hold" 99 yH_isSound := Or.inl (pm_in3 (j := 100) rfl rfl)
theorem lk_B_161 : pm_Lk "BayStowage" 161 yZ_max := Or.inl (pm_in3 (j := 101) rfl rfl)
theorem lk_B_166 : pm_Lk "BayStowage" 166 yH_aboard := Or.inr ⟨"BayStowage", pm_nn3 (j := 104) rfl rfl⟩
theorem lk_L_111 : pm_Lk "BayStowageLaw" 111 yL_report := Or.inl (pm_in3 (j := 105) rfl rfl)
theorem lk_L_53 : pm_Lk "BayStowageLaw" 53 yB_report := Or.inl (pm_in3 (j := 108) rfl rfl)
theorem lk_B_169 : pm_Lk "BayStowage" 169 yB_isReported := Or.inl (pm_in3 (j := 112) rfl rfl)
theorem lk_L_59 : pm_Lk "BayStowageLaw" 59 yM_init := Or.inl (pm_in3 (j := 118) rfl rfl)
theorem lk_M_78 : pm_Lk "BayStowageModel" 78 yM_empty := Or.inl (pm_in3 (j := 122) rfl rfl)
theorem lk_L_66 : pm_Lk "BayStowageLaw" 66 yM_thrown := Or.inl (pm_in3 (j := 204) rfl rfl)
theorem lk_L_65 : pm_Lk "BayStowageLaw" 65 yM_bay := Or.inl (pm_in3 (j := 208) rfl rfl)
theorem lk_M_92 : pm_Lk "BayStowageModel" 92 yM_in := Or.inl (pm_in3 (j := 212) rfl rfl)
theorem lk_M_96 : pm_Lk "BayStowageModel" 96 yM_refuse := Or.inl (pm_in3 (j := 215) rfl rfl)
theorem lk_M_103 : pm_Lk "BayStowageModel" 103 yM_noPlan := Or.inl (pm_in3 (j := 219) rfl rfl)
theorem lk_L_72 : pm_Lk "BayStowageLaw" 72 yM_plug := Or.inl (pm_in3 (j := 223) rfl rfl)
theorem lk_M_106 : pm_Lk "BayStowageModel" 106 yM_isStack := Or.inl (pm_in3 (j := 227) rfl rfl)
theorem lk_L_76 : pm_Lk "BayStowageLaw" 76 yM_box := Or.inl (pm_in3 (j := 231) rfl rfl)
theorem lk_L_80 : pm_Lk "BayStowageLaw" 80 yM_roll := Or.inl (pm_in3 (j := 235) rfl rfl)
theorem lk_L_84 : pm_Lk "BayStowageLaw" 84 yM_plan := Or.inl (pm_in3 (j := 239) rfl rfl)
theorem lk_M_165 : pm_Lk "BayStowageModel" 165 yM_listAll := Or.inl (pm_in4 (j := 3) rfl rfl)
theorem lk_M_132 : pm_Lk "BayStowageModel" 132 yM_may := Or.inl (pm_in4 (j := 7) rfl rfl)
theorem lk_M_125 : pm_Lk "BayStowageModel" 125 yM_isAboard := Or.inl (pm_in4 (j := 11) rfl rfl)
theorem lk_M_129 : pm_Lk "BayStowageModel" 129 yM_isIn := Or.inl (pm_in4 (j := 15) rfl rfl)
theorem lk_M_135 : pm_Lk "BayStowageModel" 135 yM_hasAll := Or.inl (pm_in4 (j := 19) rfl rfl)
theorem lk_M_139 : pm_Lk "BayStowageModel" 139 yM_isSound := Or.inl (pm_in4 (j := 23) rfl rfl)
theorem lk_M_114 : pm_Lk "BayStowageModel" 114 yM_listOf := Or.inl (pm_in4 (j := 27) rfl rfl)
theorem lk_M_110 : pm_Lk "BayStowageModel" 110 yM_weightOf := Or.inl (pm_in4 (j := 31) rfl rfl)
theorem lk_M_118 : pm_Lk "BayStowageModel" 118 yM_verticalOf := Or.inl (pm_in4 (j := 35) rfl rfl)
theorem lk_M_121 : pm_Lk "BayStowageModel" 121 yM_hasKind := Or.inl (pm_in4 (j := 39) rfl rfl)
theorem lk_M_143 : pm_Lk "BayStowageModel" 143 yM_packed := Or.inl (pm_in4 (j := 43) rfl rfl)
theorem lk_M_169 : pm_Lk "BayStowageModel" 169 yM_reckon := Or.inl (pm_in4 (j := 47) rfl rfl)
theorem lk_M_158 : pm_Lk "BayStowageModel" 158 yM_shifts := Or.inl (pm_in4 (j := 51) rfl rfl)
theorem lk_M_151 : pm_Lk "BayStowageModel" 151 yM_stays := Or.inl (pm_in4 (j := 54) rfl rfl)
theorem lk_M_147 : pm_Lk "BayStowageModel" 147 yM_boxAt := Or.inl (pm_in4 (j := 57) rfl rfl)
theorem lk_M_155 : pm_Lk "BayStowageModel" 155 yM_has := Or.inl (pm_in4 (j := 60) rfl rfl)
theorem lk_M_172 : pm_Lk "BayStowageModel" 172 yM_choose := Or.inl (pm_in4 (j := 63) rfl rfl)
theorem lk_M_175 : pm_Lk "BayStowageModel" 175 yM_change := Or.inl (pm_in4 (j := 67) rfl rfl)
theorem lk_M_161 : pm_Lk "BayStowageModel" 161 yM_add := Or.inl (pm_in4 (j := 71) rfl rfl)
theorem lk_L_88 : pm_Lk "BayStowageLaw" 88 yM_moves := Or.inl (pm_in4 (j := 75) rfl rfl)
theorem lk_L_92 : pm_Lk "BayStowageLaw" 92 yM_move := Or.inl (pm_in4 (j := 79) rfl rfl)
theorem lk_L_96 : pm_Lk "BayStowageLaw" 96 yM_hand := Or.inl (pm_in4 (j := 83) rfl rfl)
theorem lk_L_100 : pm_Lk "BayStowageLaw" 100 yM_replay := Or.inl (pm_in4 (j := 87) rfl rfl)
theorem lk_M_182 : pm_Lk "BayStowageModel" 182 yM_act := Or.inl (pm_in4 (j := 91) rfl rfl)
theorem lk_M_179 : pm_Lk "BayStowageModel" 179 yM_height := Or.inl (pm_in4 (j := 95) rfl rfl)
theorem lk_L_103 : pm_Lk "BayStowageLaw" 103 yM_slot := Or.inl (pm_in4 (j := 99) rfl rfl)
theorem lk_L_106 : pm_Lk "BayStowageLaw" 106 yM_moment := Or.inl (pm_in4 (j := 103) rfl rfl)
theorem lk_L_110 : pm_Lk "BayStowageLaw" 110 yM_verify := Or.inl (pm_in4 (j := 107) rfl rfl)
theorem lk_L_113 : pm_Lk "BayStowageLaw" 113 yM_report := Or.inl (pm_in4 (j := 111) rfl rfl)
