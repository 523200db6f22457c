/-! OBJECTS: their fields; reading and writing one (printed by wip/whole/tools/gen_obj.py) -/
def mob (w : Int32) (hh : Int32) (re : Int32) (sl : Int32) (tu : Int32) (fd : Int32) (hd : Int32) (nd : Int32) (bd : Int64) (pv : Int32) (fr : Int32) (en : Int32) (sm : Int32) (sz : Int32) : List Value := [.int w, .int hh, .ref 59, .ref 60, .ref 61, .ref 62, .ref 63, .ref 64, .ref 65, .ref 66, .ref 67, .int re, .int sl, .int tu, .int fd, .int hd, .ref 68, .ref 69, .ref 70, .int nd, .long bd, .int pv, .int fr, .int en, .int sm, .ref 71, .ref 72, .ref 73, .ref 74, .ref 75, .ref 76, .int sz, .ref 77]
theorem mob_g0 {w : Int32} {hh : Int32} {re : Int32} {sl : Int32} {tu : Int32} {fd : Int32} {hd : Int32} {nd : Int32} {bd : Int64} {pv : Int32} {fr : Int32} {en : Int32} {sm : Int32} {sz : Int32} : mx_lg (mob w hh re sl tu fd hd nd bd pv fr en sm sz) 0 = some (.int w) := rfl
theorem mob_g1 {w : Int32} {hh : Int32} {re : Int32} {sl : Int32} {tu : Int32} {fd : Int32} {hd : Int32} {nd : Int32} {bd : Int64} {pv : Int32} {fr : Int32} {en : Int32} {sm : Int32} {sz : Int32} : mx_lg (mob w hh re sl tu fd hd nd bd pv fr en sm sz) 1 = some (.int hh) := rfl
theorem mob_g2 {w : Int32} {hh : Int32} {re : Int32} {sl : Int32} {tu : Int32} {fd : Int32} {hd : Int32} {nd : Int32} {bd : Int64} {pv : Int32} {fr : Int32} {en : Int32} {sm : Int32} {sz : Int32} : mx_lg (mob w hh re sl tu fd hd nd bd pv fr en sm sz) 2 = some (.ref 59) := rfl
theorem mob_g3 {w : Int32} {hh : Int32} {re : Int32} {sl : Int32} {tu : Int32} {fd : Int32} {hd : Int32} {nd : Int32} {bd : Int64} {pv : Int32} {fr : Int32} {en : Int32} {sm : Int32} {sz : Int32} : mx_lg (mob w hh re sl tu fd hd nd bd pv fr en sm sz) 3 = some (.ref 60) := rfl
theorem mob_g4 {w : Int32} {hh : Int32} {re : Int32} {sl : Int32} {tu : Int32} {fd : Int32} {hd : Int32} {nd : Int32} {bd : Int64} {pv : Int32} {fr : Int32} {en : Int32} {sm : Int32} {sz : Int32} : mx_lg (mob w hh re sl tu fd hd nd bd pv fr en sm sz) 4 = some (.ref 61) := rfl
theorem mob_g5 {w : Int32} {hh : Int32} {re : Int32} {sl : Int32} {tu : Int32} {fd : Int32} {hd : Int32} {nd : Int32} {bd : Int64} {pv : Int32} {fr : Int32} {en : Int32} {sm : Int32} {sz : Int32} : mx_lg (mob w hh re sl tu fd hd nd bd pv fr en sm sz) 5 = some (.ref 62) := rfl
theorem mob_g6 {w : Int32} {hh : Int32} {re : Int32} {sl : Int32} {tu : Int32} {fd : Int32} {hd : Int32} {nd : Int32} {bd : Int64} {pv : Int32} {fr : Int32} {en : Int32} {sm : Int32} {sz : Int32} : mx_lg (mob w hh re sl tu fd hd nd bd pv fr en sm sz) 6 = some (.ref 63) := rfl
theorem mob_g7 {w : Int32} {hh : Int32} {re : Int32} {sl : Int32} {tu : Int32} {fd : Int32} {hd : Int32} {nd : Int32} {bd : Int64} {pv : Int32} {fr : Int32} {en : Int32} {sm : Int32} {sz : Int32} : mx_lg (mob w hh re sl tu fd hd nd bd pv fr en sm sz) 7 = some (.ref 64) := rfl
theorem mob_g8 {w : Int32} {hh : Int32} {re : Int32} {sl : Int32} {tu : Int32} {fd : Int32} {hd : Int32} {nd : Int32} {bd : Int64} {pv : Int32} {fr : Int32} {en : Int32} {sm : Int32} {sz : Int32} : mx_lg (mob w hh re sl tu fd hd nd bd pv fr en sm sz) 8 = some (.ref 65) := rfl
theorem mob_g9 {w : Int32} {hh : Int32} {re : Int32} {sl : Int32} {tu : Int32} {fd : Int32} {hd : Int32} {nd : Int32} {bd : Int64} {pv : Int32} {fr : Int32} {en : Int32} {sm : Int32} {sz : Int32} : mx_lg (mob w hh re sl tu fd hd nd bd pv fr en sm sz) 9 = some (.ref 66) := rfl
theorem mob_g10 {w : Int32} {hh : Int32} {re : Int32} {sl : Int32} {tu : Int32} {fd : Int32} {hd : Int32} {nd : Int32} {bd : Int64} {pv : Int32} {fr : Int32} {en : Int32} {sm : Int32} {sz : Int32} : mx_lg (mob w hh re sl tu fd hd nd bd pv fr en sm sz) 10 = some (.ref 67) := rfl
theorem mob_g11 {w : Int32} {hh : Int32} {re : Int32} {sl : Int32} {tu : Int32} {fd : Int32} {hd : Int32} {nd : Int32} {bd : Int64} {pv : Int32} {fr : Int32} {en : Int32} {sm : Int32} {sz : Int32} : mx_lg (mob w hh re sl tu fd hd nd bd pv fr en sm sz) 11 = some (.int re) := rfl
theorem mob_g12 {w : Int32} {hh : Int32} {re : Int32} {sl : Int32} {tu : Int32} {fd : Int32} {hd : Int32} {nd : Int32} {bd : Int64} {pv : Int32} {fr : Int32} {en : Int32} {sm : Int32} {sz : Int32} : mx_lg (mob w hh re sl tu fd hd nd bd pv fr en sm sz) 12 = some (.int sl) := rfl
theorem mob_g13 {w : Int32} {hh : Int32} {re : Int32} {sl : Int32} {tu : Int32} {fd : Int32} {hd : Int32} {nd : Int32} {bd : Int64} {pv : Int32} {fr : Int32} {en : Int32} {sm : Int32} {sz : Int32} : mx_lg (mob w hh re sl tu fd hd nd bd pv fr en sm sz) 13 = some (.int tu) := rfl
theorem mob_g14 {w : Int32} {hh : Int32} {re : Int32} {sl : Int32} {tu : Int32} {fd : Int32} {hd : Int32} {nd : Int32} {bd : Int64} {pv : Int32} {fr : Int32} {en : Int32} {sm : Int32} {sz : Int32} : mx_lg (mob w hh re sl tu fd hd nd bd pv fr en sm sz) 14 = some (.int fd) := rfl
theorem mob_g15 {w : Int32} {hh : Int32} {re : Int32} {sl : Int32} {tu : Int32} {fd : Int32} {hd : Int32} {nd : Int32} {bd : Int64} {pv : Int32} {fr : Int32} {en : Int32} {sm : Int32} {sz : Int32} : mx_lg (mob w hh re sl tu fd hd nd bd pv fr en sm sz) 15 = some (.int hd) := rfl
theorem mob_g16 {w : Int32} {hh : Int32} {re : Int32} {sl : Int32} {tu : Int32} {fd : Int32} {hd : Int32} {nd : Int32} {bd : Int64} {pv : Int32} {fr : Int32} {en : Int32} {sm : Int32} {sz : Int32} : mx_lg (mob w hh re sl tu fd hd nd bd pv fr en sm sz) 16 = some (.ref 68) := rfl
theorem mob_g17 {w : Int32} {hh : Int32} {re : Int32} {sl : Int32} {tu : Int32} {fd : Int32} {hd : Int32} {nd : Int32} {bd : Int64} {pv : Int32} {fr : Int32} {en : Int32} {sm : Int32} {sz : Int32} : mx_lg (mob w hh re sl tu fd hd nd bd pv fr en sm sz) 17 = some (.ref 69) := rfl
theorem mob_g18 {w : Int32} {hh : Int32} {re : Int32} {sl : Int32} {tu : Int32} {fd : Int32} {hd : Int32} {nd : Int32} {bd : Int64} {pv : Int32} {fr : Int32} {en : Int32} {sm : Int32} {sz : Int32} : mx_lg (mob w hh re sl tu fd hd nd bd pv fr en sm sz) 18 = some (.ref 70) := rfl
theorem mob_g19 {w : Int32} {hh : Int32} {re : Int32} {sl : Int32} {tu : Int32} {fd : Int32} {hd : Int32} {nd : Int32} {bd : Int64} {pv : Int32} {fr : Int32} {en : Int32} {sm : Int32} {sz : Int32} : mx_lg (mob w hh re sl tu fd hd nd bd pv fr en sm sz) 19 = some (.int nd) := rfl
theorem mob_g20 {w : Int32} {hh : Int32} {re : Int32} {sl : Int32} {tu : Int32} {fd : Int32} {hd : Int32} {nd : Int32} {bd : Int64} {pv : Int32} {fr : Int32} {en : Int32} {sm : Int32} {sz : Int32} : mx_lg (mob w hh re sl tu fd hd nd bd pv fr en sm sz) 20 = some (.long bd) := rfl
theorem mob_g21 {w : Int32} {hh : Int32} {re : Int32} {sl : Int32} {tu : Int32} {fd : Int32} {hd : Int32} {nd : Int32} {bd : Int64} {pv : Int32} {fr : Int32} {en : Int32} {sm : Int32} {sz : Int32} : mx_lg (mob w hh re sl tu fd hd nd bd pv fr en sm sz) 21 = some (.int pv) := rfl
theorem mob_g22 {w : Int32} {hh : Int32} {re : Int32} {sl : Int32} {tu : Int32} {fd : Int32} {hd : Int32} {nd : Int32} {bd : Int64} {pv : Int32} {fr : Int32} {en : Int32} {sm : Int32} {sz : Int32} : mx_lg (mob w hh re sl tu fd hd nd bd pv fr en sm sz) 22 = some (.int fr) := rfl
theorem mob_g23 {w : Int32} {hh : Int32} {re : Int32} {sl : Int32} {tu : Int32} {fd : Int32} {hd : Int32} {nd : Int32} {bd : Int64} {pv : Int32} {fr : Int32} {en : Int32} {sm : Int32} {sz : Int32} : mx_lg (mob w hh re sl tu fd hd nd bd pv fr en sm sz) 23 = some (.int en) := rfl
theorem mob_g24 {w : Int32} {hh : Int32} {re : Int32} {sl : Int32} {tu : Int32} {fd : Int32} {hd : Int32} {nd : Int32} {bd : Int64} {pv : Int32} {fr : Int32} {en : Int32} {sm : Int32} {sz : Int32} : mx_lg (mob w hh re sl tu fd hd nd bd pv fr en sm sz) 24 = some (.int sm) := rfl
theorem mob_g25 {w : Int32} {hh : Int32} {re : Int32} {sl : Int32} {tu : Int32} {fd : Int32} {hd : Int32} {nd : Int32} {bd : Int64} {pv : Int32} {fr : Int32} {en : Int32} {sm : Int32} {sz : Int32} : mx_lg (mob w hh re sl tu fd hd nd bd pv fr en sm sz) 25 = some (.ref 71) := rfl
theorem mob_g26 {w : Int32} {hh : Int32} {re : Int32} {sl : Int32} {tu : Int32} {fd : Int32} {hd : Int32} {nd : Int32} {bd : Int64} {pv : Int32} {fr : Int32} {en : Int32} {sm : Int32} {sz : Int32} : mx_lg (mob w hh re sl tu fd hd nd bd pv fr en sm sz) 26 = some (.ref 72) := rfl
theorem mob_g27 {w : Int32} {hh : Int32} {re : Int32} {sl : Int32} {tu : Int32} {fd : Int32} {hd : Int32} {nd : Int32} {bd : Int64} {pv : Int32} {fr : Int32} {en : Int32} {sm : Int32} {sz : Int32} : mx_lg (mob w hh re sl tu fd hd nd bd pv fr en sm sz) 27 = some (.ref 73) := rfl
theorem mob_g28 {w : Int32} {hh : Int32} {re : Int32} {sl : Int32} {tu : Int32} {fd : Int32} {hd : Int32} {nd : Int32} {bd : Int64} {pv : Int32} {fr : Int32} {en : Int32} {sm : Int32} {sz : Int32} : mx_lg (mob w hh re sl tu fd hd nd bd pv fr en sm sz) 28 = some (.ref 74) := rfl
theorem mob_g29 {w : Int32} {hh : Int32} {re : Int32} {sl : Int32} {tu : Int32} {fd : Int32} {hd : Int32} {nd : Int32} {bd : Int64} {pv : Int32} {fr : Int32} {en : Int32} {sm : Int32} {sz : Int32} : mx_lg (mob w hh re sl tu fd hd nd bd pv fr en sm sz) 29 = some (.ref 75) := rfl
theorem mob_g30 {w : Int32} {hh : Int32} {re : Int32} {sl : Int32} {tu : Int32} {fd : Int32} {hd : Int32} {nd : Int32} {bd : Int64} {pv : Int32} {fr : Int32} {en : Int32} {sm : Int32} {sz : Int32} : mx_lg (mob w hh re sl tu fd hd nd bd pv fr en sm sz) 30 = some (.ref 76) := rfl
theorem mob_g31 {w : Int32} {hh : Int32} {re : Int32} {sl : Int32} {tu : Int32} {fd : Int32} {hd : Int32} {nd : Int32} {bd : Int64} {pv : Int32} {fr : Int32} {en : Int32} {sm : Int32} {sz : Int32} : mx_lg (mob w hh re sl tu fd hd nd bd pv fr en sm sz) 31 = some (.int sz) := rfl
theorem mob_g32 {w : Int32} {hh : Int32} {re : Int32} {sl : Int32} {tu : Int32} {fd : Int32} {hd : Int32} {nd : Int32} {bd : Int64} {pv : Int32} {fr : Int32} {en : Int32} {sm : Int32} {sz : Int32} : mx_lg (mob w hh re sl tu fd hd nd bd pv fr en sm sz) 32 = some (.ref 77) := rfl
theorem mob_s0 {w : Int32} {hh : Int32} {re : Int32} {sl : Int32} {tu : Int32} {fd : Int32} {hd : Int32} {nd : Int32} {bd : Int64} {pv : Int32} {fr : Int32} {en : Int32} {sm : Int32} {sz : Int32} {z_ : Int32} : mx_ls (mob w hh re sl tu fd hd nd bd pv fr en sm sz) 0 (.int z_) = mob z_ hh re sl tu fd hd nd bd pv fr en sm sz := rfl
theorem mob_s1 {w : Int32} {hh : Int32} {re : Int32} {sl : Int32} {tu : Int32} {fd : Int32} {hd : Int32} {nd : Int32} {bd : Int64} {pv : Int32} {fr : Int32} {en : Int32} {sm : Int32} {sz : Int32} {z_ : Int32} : mx_ls (mob w hh re sl tu fd hd nd bd pv fr en sm sz) 1 (.int z_) = mob w z_ re sl tu fd hd nd bd pv fr en sm sz := rfl
theorem mob_s11 {w : Int32} {hh : Int32} {re : Int32} {sl : Int32} {tu : Int32} {fd : Int32} {hd : Int32} {nd : Int32} {bd : Int64} {pv : Int32} {fr : Int32} {en : Int32} {sm : Int32} {sz : Int32} {z_ : Int32} : mx_ls (mob w hh re sl tu fd hd nd bd pv fr en sm sz) 11 (.int z_) = mob w hh z_ sl tu fd hd nd bd pv fr en sm sz := rfl
theorem mob_s12 {w : Int32} {hh : Int32} {re : Int32} {sl : Int32} {tu : Int32} {fd : Int32} {hd : Int32} {nd : Int32} {bd : Int64} {pv : Int32} {fr : Int32} {en : Int32} {sm : Int32} {sz : Int32} {z_ : Int32} : mx_ls (mob w hh re sl tu fd hd nd bd pv fr en sm sz) 12 (.int z_) = mob w hh re z_ tu fd hd nd bd pv fr en sm sz := rfl
theorem mob_s13 {w : Int32} {hh : Int32} {re : Int32} {sl : Int32} {tu : Int32} {fd : Int32} {hd : Int32} {nd : Int32} {bd : Int64} {pv : Int32} {fr : Int32} {en : Int32} {sm : Int32} {sz : Int32} {z_ : Int32} : mx_ls (mob w hh re sl tu fd hd nd bd pv fr en sm sz) 13 (.int z_) = mob w hh re sl z_ fd hd nd bd pv fr en sm sz := rfl
theorem mob_s14 {w : Int32} {hh : Int32} {re : Int32} {sl : Int32} {tu : Int32} {fd : Int32} {hd : Int32} {nd : Int32} {bd : Int64} {pv : Int32} {fr : Int32} {en : Int32} {sm : Int32} {sz : Int32} {z_ : Int32} : mx_ls (mob w hh re sl tu fd hd nd bd pv fr en sm sz) 14 (.int z_) = mob w hh re sl tu z_ hd nd bd pv fr en sm sz := rfl
theorem mob_s15 {w : Int32} {hh : Int32} {re : Int32} {sl : Int32} {tu : Int32} {fd : Int32} {hd : Int32} {nd : Int32} {bd : Int64} {pv : Int32} {fr : Int32} {en : Int32} {sm : Int32} {sz : Int32} {z_ : Int32} : mx_ls (mob w hh re sl tu fd hd nd bd pv fr en sm sz) 15 (.int z_) = mob w hh re sl tu fd z_ nd bd pv fr en sm sz := rfl
theorem mob_s19 {w : Int32} {hh : Int32} {re : Int32} {sl : Int32} {tu : Int32} {fd : Int32} {hd : Int32} {nd : Int32} {bd : Int64} {pv : Int32} {fr : Int32} {en : Int32} {sm : Int32} {sz : Int32} {z_ : Int32} : mx_ls (mob w hh re sl tu fd hd nd bd pv fr en sm sz) 19 (.int z_) = mob w hh re sl tu fd hd z_ bd pv fr en sm sz := rfl
theorem mob_s20 {w : Int32} {hh : Int32} {re : Int32} {sl : Int32} {tu : Int32} {fd : Int32} {hd : Int32} {nd : Int32} {bd : Int64} {pv : Int32} {fr : Int32} {en : Int32} {sm : Int32} {sz : Int32} {z_ : Int64} : mx_ls (mob w hh re sl tu fd hd nd bd pv fr en sm sz) 20 (.long z_) = mob w hh re sl tu fd hd nd z_ pv fr en sm sz := rfl
theorem mob_s21 {w : Int32} {hh : Int32} {re : Int32} {sl : Int32} {tu : Int32} {fd : Int32} {hd : Int32} {nd : Int32} {bd : Int64} {pv : Int32} {fr : Int32} {en : Int32} {sm : Int32} {sz : Int32} {z_ : Int32} : mx_ls (mob w hh re sl tu fd hd nd bd pv fr en sm sz) 21 (.int z_) = mob w hh re sl tu fd hd nd bd z_ fr en sm sz := rfl
theorem mob_s22 {w : Int32} {hh : Int32} {re : Int32} {sl : Int32} {tu : Int32} {fd : Int32} {hd : Int32} {nd : Int32} {bd : Int64} {pv : Int32} {fr : Int32} {en : Int32} {sm : Int32} {sz : Int32} {z_ : Int32} : mx_ls (mob w hh re sl tu fd hd nd bd pv fr en sm sz) 22 (.int z_) = mob w hh re sl tu fd hd nd bd pv z_ en sm sz := rfl
theorem mob_s23 {w : Int32} {hh : Int32} {re : Int32} {sl : Int32} {tu : Int32} {fd : Int32} {hd : Int32} {nd : Int32} {bd : Int64} {pv : Int32} {fr : Int32} {en : Int32} {sm : Int32} {sz : Int32} {z_ : Int32} : mx_ls (mob w hh re sl tu fd hd nd bd pv fr en sm sz) 23 (.int z_) = mob w hh re sl tu fd hd nd bd pv fr z_ sm sz := rfl
theorem mob_s24 {w : Int32} {hh : Int32} {re : Int32} {sl : Int32} {tu : Int32} {fd : Int32} {hd : Int32} {nd : Int32} {bd : Int64} {pv : Int32} {fr : Int32} {en : Int32} {sm : Int32} {sz : Int32} {z_ : Int32} : mx_ls (mob w hh re sl tu fd hd nd bd pv fr en sm sz) 24 (.int z_) = mob w hh re sl tu fd hd nd bd pv fr en z_ sz := rfl
theorem mob_s31 {w : Int32} {hh : Int32} {re : Int32} {sl : Int32} {tu : Int32} {fd : Int32} {hd : Int32} {nd : Int32} {bd : Int64} {pv : Int32} {fr : Int32} {en : Int32} {sm : Int32} {sz : Int32} {z_ : Int32} : mx_ls (mob w hh re sl tu fd hd nd bd pv fr en sm sz) 31 (.int z_) = mob w hh re sl tu fd hd nd bd pv fr en sm z_ := rfl
theorem mob_len {w : Int32} {hh : Int32} {re : Int32} {sl : Int32} {tu : Int32} {fd : Int32} {hd : Int32} {nd : Int32} {bd : Int64} {pv : Int32} {fr : Int32} {en : Int32} {sm : Int32} {sz : Int32} : (mob w hh re sl tu fd hd nd bd pv fr en sm sz).length = 33 := rfl
def xob (fc : Int32) (ln : Int64) (lb : Int64) (lp : Int32) : List Value := [.ref 17, .ref 30, .ref 39, .int fc, .long ln, .long lb, .int lp]
theorem xob_g0 {fc : Int32} {ln : Int64} {lb : Int64} {lp : Int32} : mx_lg (xob fc ln lb lp) 0 = some (.ref 17) := rfl
theorem xob_g1 {fc : Int32} {ln : Int64} {lb : Int64} {lp : Int32} : mx_lg (xob fc ln lb lp) 1 = some (.ref 30) := rfl
theorem xob_g2 {fc : Int32} {ln : Int64} {lb : Int64} {lp : Int32} : mx_lg (xob fc ln lb lp) 2 = some (.ref 39) := rfl
theorem xob_g3 {fc : Int32} {ln : Int64} {lb : Int64} {lp : Int32} : mx_lg (xob fc ln lb lp) 3 = some (.int fc) := rfl
theorem xob_g4 {fc : Int32} {ln : Int64} {lb : Int64} {lp : Int32} : mx_lg (xob fc ln lb lp) 4 = some (.long ln) := rfl
theorem xob_g5 {fc : Int32} {ln : Int64} {lb : Int64} {lp : Int32} : mx_lg (xob fc ln lb lp) 5 = some (.long lb) := rfl
theorem xob_g6 {fc : Int32} {ln : Int64} {lb : Int64} {lp : Int32} : mx_lg (xob fc ln lb lp) 6 = some (.int lp) := rfl
theorem xob_s3 {fc : Int32} {ln : Int64} {lb : Int64} {lp : Int32} {z_ : Int32} : mx_ls (xob fc ln lb lp) 3 (.int z_) = xob z_ ln lb lp := rfl
theorem xob_s4 {fc : Int32} {ln : Int64} {lb : Int64} {lp : Int32} {z_ : Int64} : mx_ls (xob fc ln lb lp) 4 (.long z_) = xob fc z_ lb lp := rfl
theorem xob_s5 {fc : Int32} {ln : Int64} {lb : Int64} {lp : Int32} {z_ : Int64} : mx_ls (xob fc ln lb lp) 5 (.long z_) = xob fc ln z_ lp := rfl
theorem xob_s6 {fc : Int32} {ln : Int64} {lb : Int64} {lp : Int32} {z_ : Int32} : mx_ls (xob fc ln lb lp) 6 (.int z_) = xob fc ln lb z_ := rfl
theorem xob_len {fc : Int32} {ln : Int64} {lb : Int64} {lp : Int32} : (xob fc ln lb lp).length = 7 := rfl
def gob (w : Int32) (hh : Int32) (n : Int32) (re : Int32) (sl : Int32) (tu : Int32) : List Value := [.int w, .int hh, .int n, .ref 18, .ref 19, .ref 20, .ref 21, .ref 22, .ref 23, .ref 24, .ref 25, .ref 26, .ref 27, .ref 28, .ref 29, .int re, .int sl, .int tu]
theorem gob_g0 {w : Int32} {hh : Int32} {n : Int32} {re : Int32} {sl : Int32} {tu : Int32} : mx_lg (gob w hh n re sl tu) 0 = some (.int w) := rfl
theorem gob_g1 {w : Int32} {hh : Int32} {n : Int32} {re : Int32} {sl : Int32} {tu : Int32} : mx_lg (gob w hh n re sl tu) 1 = some (.int hh) := rfl
theorem gob_g2 {w : Int32} {hh : Int32} {n : Int32} {re : Int32} {sl : Int32} {tu : Int32} : mx_lg (gob w hh n re sl tu) 2 = some (.int n) := rfl
theorem gob_g3 {w : Int32} {hh : Int32} {n : Int32} {re : Int32} {sl : Int32} {tu : Int32} : mx_lg (gob w hh n re sl tu) 3 = some (.ref 18) := rfl
theorem gob_g4 {w : Int32} {hh : Int32} {n : Int32} {re : Int32} {sl : Int32} {tu : Int32} : mx_lg (gob w hh n re sl tu) 4 = some (.ref 19) := rfl
theorem gob_g5 {w : Int32} {hh : Int32} {n : Int32} {re : Int32} {sl : Int32} {tu : Int32} : mx_lg (gob w hh n re sl tu) 5 = some (.ref 20) := rfl
theorem gob_g6 {w : Int32} {hh : Int32} {n : Int32} {re : Int32} {sl : Int32} {tu : Int32} : mx_lg (gob w hh n re sl tu) 6 = some (.ref 21) := rfl
theorem gob_g7 {w : Int32} {hh : Int32} {n : Int32} {re : Int32} {sl : Int32} {tu : Int32} : mx_lg (gob w hh n re sl tu) 7 = some (.ref 22) := rfl
theorem gob_g8 {w : Int32} {hh : Int32} {n : Int32} {re : Int32} {sl : Int32} {tu : Int32} : mx_lg (gob w hh n re sl tu) 8 = some (.ref 23) := rfl
theorem gob_g9 {w : Int32} {hh : Int32} {n : Int32} {re : Int32} {sl : Int32} {tu : Int32} : mx_lg (gob w hh n re sl tu) 9 = some (.ref 24) := rfl
theorem gob_g10 {w : Int32} {hh : Int32} {n : Int32} {re : Int32} {sl : Int32} {tu : Int32} : mx_lg (gob w hh n re sl tu) 10 = some (.ref 25) := rfl
theorem gob_g11 {w : Int32} {hh : Int32} {n : Int32} {re : Int32} {sl : Int32} {tu : Int32} : mx_lg (gob w hh n re sl tu) 11 = some (.ref 26) := rfl
theorem gob_g12 {w : Int32} {hh : Int32} {n : Int32} {re : Int32} {sl : Int32} {tu : Int32} : mx_lg (gob w hh n re sl tu) 12 = some (.ref 27) := rfl
theorem gob_g13 {w : Int32} {hh : Int32} {n : Int32} {re : Int32} {sl : Int32} {tu : Int32} : mx_lg (gob w hh n re sl tu) 13 = some (.ref 28) := rfl
theorem gob_g14 {w : Int32} {hh : Int32} {n : Int32} {re : Int32} {sl : Int32} {tu : Int32} : mx_lg (gob w hh n re sl tu) 14 = some (.ref 29) := rfl
theorem gob_g15 {w : Int32} {hh : Int32} {n : Int32} {re : Int32} {sl : Int32} {tu : Int32} : mx_lg (gob w hh n re sl tu) 15 = some (.int re) := rfl
theorem gob_g16 {w : Int32} {hh : Int32} {n : Int32} {re : Int32} {sl : Int32} {tu : Int32} : mx_lg (gob w hh n re sl tu) 16 = some (.int sl) := rfl
theorem gob_g17 {w : Int32} {hh : Int32} {n : Int32} {re : Int32} {sl : Int32} {tu : Int32} : mx_lg (gob w hh n re sl tu) 17 = some (.int tu) := rfl
theorem gob_s0 {w : Int32} {hh : Int32} {n : Int32} {re : Int32} {sl : Int32} {tu : Int32} {z_ : Int32} : mx_ls (gob w hh n re sl tu) 0 (.int z_) = gob z_ hh n re sl tu := rfl
theorem gob_s1 {w : Int32} {hh : Int32} {n : Int32} {re : Int32} {sl : Int32} {tu : Int32} {z_ : Int32} : mx_ls (gob w hh n re sl tu) 1 (.int z_) = gob w z_ n re sl tu := rfl
theorem gob_s2 {w : Int32} {hh : Int32} {n : Int32} {re : Int32} {sl : Int32} {tu : Int32} {z_ : Int32} : mx_ls (gob w hh n re sl tu) 2 (.int z_) = gob w hh z_ re sl tu := rfl
theorem gob_s15 {w : Int32} {hh : Int32} {n : Int32} {re : Int32} {sl : Int32} {tu : Int32} {z_ : Int32} : mx_ls (gob w hh n re sl tu) 15 (.int z_) = gob w hh n z_ sl tu := rfl
theorem gob_s16 {w : Int32} {hh : Int32} {n : Int32} {re : Int32} {sl : Int32} {tu : Int32} {z_ : Int32} : mx_ls (gob w hh n re sl tu) 16 (.int z_) = gob w hh n re z_ tu := rfl
theorem gob_s17 {w : Int32} {hh : Int32} {n : Int32} {re : Int32} {sl : Int32} {tu : Int32} {z_ : Int32} : mx_ls (gob w hh n re sl tu) 17 (.int z_) = gob w hh n re sl z_ := rfl
theorem gob_len {w : Int32} {hh : Int32} {n : Int32} {re : Int32} {sl : Int32} {tu : Int32} : (gob w hh n re sl tu).length = 18 := rfl
def sob (fi : Int32) (la : Int32) (sm : Int32) (hr : Int32) (lc : Int64) : List Value := [.ref 17, .ref 31, .ref 36, .ref 37, .ref 38, .int fi, .int la, .int sm, .int hr, .long lc]
theorem sob_g0 {fi : Int32} {la : Int32} {sm : Int32} {hr : Int32} {lc : Int64} : mx_lg (sob fi la sm hr lc) 0 = some (.ref 17) := rfl
theorem sob_g1 {fi : Int32} {la : Int32} {sm : Int32} {hr : Int32} {lc : Int64} : mx_lg (sob fi la sm hr lc) 1 = some (.ref 31) := rfl
theorem sob_g2 {fi : Int32} {la : Int32} {sm : Int32} {hr : Int32} {lc : Int64} : mx_lg (sob fi la sm hr lc) 2 = some (.ref 36) := rfl
theorem sob_g3 {fi : Int32} {la : Int32} {sm : Int32} {hr : Int32} {lc : Int64} : mx_lg (sob fi la sm hr lc) 3 = some (.ref 37) := rfl
theorem sob_g4 {fi : Int32} {la : Int32} {sm : Int32} {hr : Int32} {lc : Int64} : mx_lg (sob fi la sm hr lc) 4 = some (.ref 38) := rfl
theorem sob_g5 {fi : Int32} {la : Int32} {sm : Int32} {hr : Int32} {lc : Int64} : mx_lg (sob fi la sm hr lc) 5 = some (.int fi) := rfl
theorem sob_g6 {fi : Int32} {la : Int32} {sm : Int32} {hr : Int32} {lc : Int64} : mx_lg (sob fi la sm hr lc) 6 = some (.int la) := rfl
theorem sob_g7 {fi : Int32} {la : Int32} {sm : Int32} {hr : Int32} {lc : Int64} : mx_lg (sob fi la sm hr lc) 7 = some (.int sm) := rfl
theorem sob_g8 {fi : Int32} {la : Int32} {sm : Int32} {hr : Int32} {lc : Int64} : mx_lg (sob fi la sm hr lc) 8 = some (.int hr) := rfl
theorem sob_g9 {fi : Int32} {la : Int32} {sm : Int32} {hr : Int32} {lc : Int64} : mx_lg (sob fi la sm hr lc) 9 = some (.long lc) := rfl
theorem sob_s5 {fi : Int32} {la : Int32} {sm : Int32} {hr : Int32} {lc : Int64} {z_ : Int32} : mx_ls (sob fi la sm hr lc) 5 (.int z_) = sob z_ la sm hr lc := rfl
theorem sob_s6 {fi : Int32} {la : Int32} {sm : Int32} {hr : Int32} {lc : Int64} {z_ : Int32} : mx_ls (sob fi la sm hr lc) 6 (.int z_) = sob fi z_ sm hr lc := rfl
theorem sob_s7 {fi : Int32} {la : Int32} {sm : Int32} {hr : Int32} {lc : Int64} {z_ : Int32} : mx_ls (sob fi la sm hr lc) 7 (.int z_) = sob fi la z_ hr lc := rfl
theorem sob_s8 {fi : Int32} {la : Int32} {sm : Int32} {hr : Int32} {lc : Int64} {z_ : Int32} : mx_ls (sob fi la sm hr lc) 8 (.int z_) = sob fi la sm z_ lc := rfl
theorem sob_s9 {fi : Int32} {la : Int32} {sm : Int32} {hr : Int32} {lc : Int64} {z_ : Int64} : mx_ls (sob fi la sm hr lc) 9 (.long z_) = sob fi la sm hr z_ := rfl
theorem sob_len {fi : Int32} {la : Int32} {sm : Int32} {hr : Int32} {lc : Int64} : (sob fi la sm hr lc).length = 10 := rfl
def qob (qc : Nat) (qr : Nat) (qs : Nat) (qh : Nat) (rc : Int32) (ct : Int32) : List Value := [.ref qc, .ref qr, .ref qs, .ref qh, .int rc, .int ct]
theorem qob_g0 {qc : Nat} {qr : Nat} {qs : Nat} {qh : Nat} {rc : Int32} {ct : Int32} : mx_lg (qob qc qr qs qh rc ct) 0 = some (.ref qc) := rfl
theorem qob_g1 {qc : Nat} {qr : Nat} {qs : Nat} {qh : Nat} {rc : Int32} {ct : Int32} : mx_lg (qob qc qr qs qh rc ct) 1 = some (.ref qr) := rfl
theorem qob_g2 {qc : Nat} {qr : Nat} {qs : Nat} {qh : Nat} {rc : Int32} {ct : Int32} : mx_lg (qob qc qr qs qh rc ct) 2 = some (.ref qs) := rfl
theorem qob_g3 {qc : Nat} {qr : Nat} {qs : Nat} {qh : Nat} {rc : Int32} {ct : Int32} : mx_lg (qob qc qr qs qh rc ct) 3 = some (.ref qh) := rfl
theorem qob_g4 {qc : Nat} {qr : Nat} {qs : Nat} {qh : Nat} {rc : Int32} {ct : Int32} : mx_lg (qob qc qr qs qh rc ct) 4 = some (.int rc) := rfl
theorem qob_g5 {qc : Nat} {qr : Nat} {qs : Nat} {qh : Nat} {rc : Int32} {ct : Int32} : mx_lg (qob qc qr qs qh rc ct) 5 = some (.int ct) := rfl
theorem qob_s0 {qc : Nat} {qr : Nat} {qs : Nat} {qh : Nat} {rc : Int32} {ct : Int32} {z_ : Nat} : mx_ls (qob qc qr qs qh rc ct) 0 (.ref z_) = qob z_ qr qs qh rc ct := rfl
theorem qob_s1 {qc : Nat} {qr : Nat} {qs : Nat} {qh : Nat} {rc : Int32} {ct : Int32} {z_ : Nat} : mx_ls (qob qc qr qs qh rc ct) 1 (.ref z_) = qob qc z_ qs qh rc ct := rfl
theorem qob_s2 {qc : Nat} {qr : Nat} {qs : Nat} {qh : Nat} {rc : Int32} {ct : Int32} {z_ : Nat} : mx_ls (qob qc qr qs qh rc ct) 2 (.ref z_) = qob qc qr z_ qh rc ct := rfl
theorem qob_s3 {qc : Nat} {qr : Nat} {qs : Nat} {qh : Nat} {rc : Int32} {ct : Int32} {z_ : Nat} : mx_ls (qob qc qr qs qh rc ct) 3 (.ref z_) = qob qc qr qs z_ rc ct := rfl
theorem qob_s4 {qc : Nat} {qr : Nat} {qs : Nat} {qh : Nat} {rc : Int32} {ct : Int32} {z_ : Int32} : mx_ls (qob qc qr qs qh rc ct) 4 (.int z_) = qob qc qr qs qh z_ ct := rfl
theorem qob_s5 {qc : Nat} {qr : Nat} {qs : Nat} {qh : Nat} {rc : Int32} {ct : Int32} {z_ : Int32} : mx_ls (qob qc qr qs qh rc ct) 5 (.int z_) = qob qc qr qs qh rc z_ := rfl
theorem qob_len {qc : Nat} {qr : Nat} {qs : Nat} {qh : Nat} {rc : Int32} {ct : Int32} : (qob qc qr qs qh rc ct).length = 6 := rfl
def wob (wp : Nat) (wh : Nat) (wl : Int32) : List Value := [.ref wp, .ref wh, .int wl]
theorem wob_g0 {wp : Nat} {wh : Nat} {wl : Int32} : mx_lg (wob wp wh wl) 0 = some (.ref wp) := rfl
theorem wob_g1 {wp : Nat} {wh : Nat} {wl : Int32} : mx_lg (wob wp wh wl) 1 = some (.ref wh) := rfl
theorem wob_g2 {wp : Nat} {wh : Nat} {wl : Int32} : mx_lg (wob wp wh wl) 2 = some (.int wl) := rfl
theorem wob_s0 {wp : Nat} {wh : Nat} {wl : Int32} {z_ : Nat} : mx_ls (wob wp wh wl) 0 (.ref z_) = wob z_ wh wl := rfl
theorem wob_s1 {wp : Nat} {wh : Nat} {wl : Int32} {z_ : Nat} : mx_ls (wob wp wh wl) 1 (.ref z_) = wob wp z_ wl := rfl
theorem wob_s2 {wp : Nat} {wh : Nat} {wl : Int32} {z_ : Int32} : mx_ls (wob wp wh wl) 2 (.int z_) = wob wp wh z_ := rfl
theorem wob_len {wp : Nat} {wh : Nat} {wl : Int32} : (wob wp wh wl).length = 3 := rfl
def pob (lu : Int64) (ll : Int64) (gu : Int64) (gl : Int64) (em : Int32) : List Value := [.long lu, .long ll, .long gu, .long gl, .int em]
theorem pob_g0 {lu : Int64} {ll : Int64} {gu : Int64} {gl : Int64} {em : Int32} : mx_lg (pob lu ll gu gl em) 0 = some (.long lu) := rfl
theorem pob_g1 {lu : Int64} {ll : Int64} {gu : Int64} {gl : Int64} {em : Int32} : mx_lg (pob lu ll gu gl em) 1 = some (.long ll) := rfl
theorem pob_g2 {lu : Int64} {ll : Int64} {gu : Int64} {gl : Int64} {em : Int32} : mx_lg (pob lu ll gu gl em) 2 = some (.long gu) := rfl
theorem pob_g3 {lu : Int64} {ll : Int64} {gu : Int64} {gl : Int64} {em : Int32} : mx_lg (pob lu ll gu gl em) 3 = some (.long gl) := rfl
theorem pob_g4 {lu : Int64} {ll : Int64} {gu : Int64} {gl : Int64} {em : Int32} : mx_lg (pob lu ll gu gl em) 4 = some (.int em) := rfl
theorem pob_s0 {lu : Int64} {ll : Int64} {gu : Int64} {gl : Int64} {em : Int32} {z_ : Int64} : mx_ls (pob lu ll gu gl em) 0 (.long z_) = pob z_ ll gu gl em := rfl
theorem pob_s1 {lu : Int64} {ll : Int64} {gu : Int64} {gl : Int64} {em : Int32} {z_ : Int64} : mx_ls (pob lu ll gu gl em) 1 (.long z_) = pob lu z_ gu gl em := rfl
theorem pob_s2 {lu : Int64} {ll : Int64} {gu : Int64} {gl : Int64} {em : Int32} {z_ : Int64} : mx_ls (pob lu ll gu gl em) 2 (.long z_) = pob lu ll z_ gl em := rfl
theorem pob_s3 {lu : Int64} {ll : Int64} {gu : Int64} {gl : Int64} {em : Int32} {z_ : Int64} : mx_ls (pob lu ll gu gl em) 3 (.long z_) = pob lu ll gu z_ em := rfl
theorem pob_s4 {lu : Int64} {ll : Int64} {gu : Int64} {gl : Int64} {em : Int32} {z_ : Int32} : mx_ls (pob lu ll gu gl em) 4 (.int z_) = pob lu ll gu gl z_ := rfl
theorem pob_len {lu : Int64} {ll : Int64} {gu : Int64} {gl : Int64} {em : Int32} : (pob lu ll gu gl em).length = 5 := rfl
