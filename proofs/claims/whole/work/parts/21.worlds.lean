/-! THE TWO WORLDS: the class's object with all that hangs on it (35 cells), the reference's (14 cells) -/
def TBw (ad : Nat → Nat) (k : Nat → ClassId) (N : Nat → Int32) (S Wt L : Nat → Nat → Int32) (T : Nat → Int32) (G : Nat → Nat → Int64) (E : Nat → Int32) (su pa tr sh : Nat → Int32) (pv : Int32) : va_W :=
  [(ad 0, .inr (3, [.ref (ad 1), .ref (ad 14), .ref (ad 25), .ref (ad 31), .ref (ad 32), .ref (ad 33), .ref (ad 34), .int pv])),
   (ad 1, .inl (k 2, 4, .inr (.inr (.inr (.inr (fun g => some (ad (2 + 3 * g)))))))),
   (ad 2, .inr (2, [.ref (ad 3), .ref (ad 4), .int (N 0)])),
   (ad 3, .inl (k 0, 3, .inl (S 0))),
   (ad 4, .inl (k 0, 27, .inl (Wt 0))),
   (ad 5, .inr (2, [.ref (ad 6), .ref (ad 7), .int (N 1)])),
   (ad 6, .inl (k 0, 3, .inl (S 1))),
   (ad 7, .inl (k 0, 27, .inl (Wt 1))),
   (ad 8, .inr (2, [.ref (ad 9), .ref (ad 10), .int (N 2)])),
   (ad 9, .inl (k 0, 3, .inl (S 2))),
   (ad 10, .inl (k 0, 27, .inl (Wt 2))),
   (ad 11, .inr (2, [.ref (ad 12), .ref (ad 13), .int (N 3)])),
   (ad 12, .inl (k 0, 3, .inl (S 3))),
   (ad 13, .inl (k 0, 27, .inl (Wt 3))),
   (ad 14, .inl (k 3, 10, .inr (.inr (.inr (.inr (fun l => some (ad (15 + l)))))))),
   (ad 15, .inl (k 0, 8, .inl (L 0))),
   (ad 16, .inl (k 0, 8, .inl (L 1))),
   (ad 17, .inl (k 0, 8, .inl (L 2))),
   (ad 18, .inl (k 0, 8, .inl (L 3))),
   (ad 19, .inl (k 0, 8, .inl (L 4))),
   (ad 20, .inl (k 0, 8, .inl (L 5))),
   (ad 21, .inl (k 0, 8, .inl (L 6))),
   (ad 22, .inl (k 0, 8, .inl (L 7))),
   (ad 23, .inl (k 0, 8, .inl (L 8))),
   (ad 24, .inl (k 0, 8, .inl (L 9))),
   (ad 25, .inr (0, [.ref (ad 26), .ref (ad 27), .ref (ad 29)])),
   (ad 26, .inl (k 0, 6, .inl T)),
   (ad 27, .inr (1, [.ref (ad 28), .int (E 0)])),
   (ad 28, .inl (k 1, 1024, .inr (.inl (G 0)))),
   (ad 29, .inr (1, [.ref (ad 30), .int (E 1)])),
   (ad 30, .inl (k 1, 1024, .inr (.inl (G 1)))),
   (ad 31, .inl (k 0, 27, .inl su)),
   (ad 32, .inl (k 0, 8, .inl pa)),
   (ad 33, .inl (k 0, 9, .inl tr)),
   (ad 34, .inl (k 0, 9, .inl sh))]
theorem tb_o {ad : Nat → Nat} {k : Nat → ClassId} {N : Nat → Int32} {S Wt L : Nat → Nat → Int32} {T : Nat → Int32} {G : Nat → Nat → Int64} {E : Nat → Int32} {su pa tr sh : Nat → Int32} {pv : Int32} : (TBw ad k N S Wt L T G E su pa tr sh pv)[0]? = some (ad (0), .inr (3, [.ref (ad 1), .ref (ad 14), .ref (ad 25), .ref (ad 31), .ref (ad 32), .ref (ad 33), .ref (ad 34), .int pv])) := rfl
theorem tb_o_st {ad : Nat → Nat} {k : Nat → ClassId} {N : Nat → Int32} {S Wt L : Nat → Nat → Int32} {T : Nat → Int32} {G : Nat → Nat → Int64} {E : Nat → Int32} {su pa tr sh : Nat → Int32} {pv : Int32} (x : Int32) : (TBw ad k N S Wt L T G E su pa tr sh pv).set (0) (ad (0), .inr (3, [.ref (ad 1), .ref (ad 14), .ref (ad 25), .ref (ad 31), .ref (ad 32), .ref (ad 33), .ref (ad 34), .int x])) = TBw ad k N S Wt L T G E su pa tr sh (x) := rfl
theorem tb_ws {ad : Nat → Nat} {k : Nat → ClassId} {N : Nat → Int32} {S Wt L : Nat → Nat → Int32} {T : Nat → Int32} {G : Nat → Nat → Int64} {E : Nat → Int32} {su pa tr sh : Nat → Int32} {pv : Int32} : (TBw ad k N S Wt L T G E su pa tr sh pv)[1]? = some (ad (1), .inl (k 2, 4, .inr (.inr (.inr (.inr (fun g => some (ad (2 + 3 * g)))))))) := rfl
theorem tb_w {ad : Nat → Nat} {k : Nat → ClassId} {N : Nat → Int32} {S Wt L : Nat → Nat → Int32} {T : Nat → Int32} {G : Nat → Nat → Int64} {E : Nat → Int32} {su pa tr sh : Nat → Int32} {pv : Int32} {g : Nat} (h : g < 4) : (TBw ad k N S Wt L T G E su pa tr sh pv)[2 + 3 * g]? = some (ad (2 + 3 * g), .inr (2, [.ref (ad (3 + 3 * g)), .ref (ad (4 + 3 * g)), .int (N g)])) := match g, h with
  | 0, _ => rfl
  | 1, _ => rfl
  | 2, _ => rfl
  | 3, _ => rfl
theorem tb_w_st {ad : Nat → Nat} {k : Nat → ClassId} {N : Nat → Int32} {S Wt L : Nat → Nat → Int32} {T : Nat → Int32} {G : Nat → Nat → Int64} {E : Nat → Int32} {su pa tr sh : Nat → Int32} {pv : Int32} {g : Nat} (h : g < 4) (x : Int32) : (TBw ad k N S Wt L T G E su pa tr sh pv).set (2 + 3 * g) (ad (2 + 3 * g), .inr (2, [.ref (ad (3 + 3 * g)), .ref (ad (4 + 3 * g)), .int x])) = TBw ad k (upd N g x) S Wt L T G E su pa tr sh pv := match g, h with
  | 0, _ => rfl
  | 1, _ => rfl
  | 2, _ => rfl
  | 3, _ => rfl
theorem tb_s {ad : Nat → Nat} {k : Nat → ClassId} {N : Nat → Int32} {S Wt L : Nat → Nat → Int32} {T : Nat → Int32} {G : Nat → Nat → Int64} {E : Nat → Int32} {su pa tr sh : Nat → Int32} {pv : Int32} {g : Nat} (h : g < 4) : (TBw ad k N S Wt L T G E su pa tr sh pv)[3 + 3 * g]? = some (ad (3 + 3 * g), .inl (k 0, 3, .inl (S g))) := match g, h with
  | 0, _ => rfl
  | 1, _ => rfl
  | 2, _ => rfl
  | 3, _ => rfl
theorem tb_s_st {ad : Nat → Nat} {k : Nat → ClassId} {N : Nat → Int32} {S Wt L : Nat → Nat → Int32} {T : Nat → Int32} {G : Nat → Nat → Int64} {E : Nat → Int32} {su pa tr sh : Nat → Int32} {pv : Int32} {g : Nat} (h : g < 4) (x : Nat → Int32) : (TBw ad k N S Wt L T G E su pa tr sh pv).set (3 + 3 * g) (ad (3 + 3 * g), .inl (k 0, 3, .inl x)) = TBw ad k N (va_up S g x) Wt L T G E su pa tr sh pv := match g, h with
  | 0, _ => rfl
  | 1, _ => rfl
  | 2, _ => rfl
  | 3, _ => rfl
theorem tb_v {ad : Nat → Nat} {k : Nat → ClassId} {N : Nat → Int32} {S Wt L : Nat → Nat → Int32} {T : Nat → Int32} {G : Nat → Nat → Int64} {E : Nat → Int32} {su pa tr sh : Nat → Int32} {pv : Int32} {g : Nat} (h : g < 4) : (TBw ad k N S Wt L T G E su pa tr sh pv)[4 + 3 * g]? = some (ad (4 + 3 * g), .inl (k 0, 27, .inl (Wt g))) := match g, h with
  | 0, _ => rfl
  | 1, _ => rfl
  | 2, _ => rfl
  | 3, _ => rfl
theorem tb_v_st {ad : Nat → Nat} {k : Nat → ClassId} {N : Nat → Int32} {S Wt L : Nat → Nat → Int32} {T : Nat → Int32} {G : Nat → Nat → Int64} {E : Nat → Int32} {su pa tr sh : Nat → Int32} {pv : Int32} {g : Nat} (h : g < 4) (x : Nat → Int32) : (TBw ad k N S Wt L T G E su pa tr sh pv).set (4 + 3 * g) (ad (4 + 3 * g), .inl (k 0, 27, .inl x)) = TBw ad k N S (va_up Wt g x) L T G E su pa tr sh pv := match g, h with
  | 0, _ => rfl
  | 1, _ => rfl
  | 2, _ => rfl
  | 3, _ => rfl
theorem tb_ls {ad : Nat → Nat} {k : Nat → ClassId} {N : Nat → Int32} {S Wt L : Nat → Nat → Int32} {T : Nat → Int32} {G : Nat → Nat → Int64} {E : Nat → Int32} {su pa tr sh : Nat → Int32} {pv : Int32} : (TBw ad k N S Wt L T G E su pa tr sh pv)[14]? = some (ad (14), .inl (k 3, 10, .inr (.inr (.inr (.inr (fun l => some (ad (15 + l)))))))) := rfl
theorem tb_l {ad : Nat → Nat} {k : Nat → ClassId} {N : Nat → Int32} {S Wt L : Nat → Nat → Int32} {T : Nat → Int32} {G : Nat → Nat → Int64} {E : Nat → Int32} {su pa tr sh : Nat → Int32} {pv : Int32} {j : Nat} (h : j < 10) : (TBw ad k N S Wt L T G E su pa tr sh pv)[15 + j]? = some (ad (15 + j), .inl (k 0, 8, .inl (L j))) := match j, h with
  | 0, _ => rfl
  | 1, _ => rfl
  | 2, _ => rfl
  | 3, _ => rfl
  | 4, _ => rfl
  | 5, _ => rfl
  | 6, _ => rfl
  | 7, _ => rfl
  | 8, _ => rfl
  | 9, _ => rfl
theorem tb_l_st {ad : Nat → Nat} {k : Nat → ClassId} {N : Nat → Int32} {S Wt L : Nat → Nat → Int32} {T : Nat → Int32} {G : Nat → Nat → Int64} {E : Nat → Int32} {su pa tr sh : Nat → Int32} {pv : Int32} {j : Nat} (h : j < 10) (x : Nat → Int32) : (TBw ad k N S Wt L T G E su pa tr sh pv).set (15 + j) (ad (15 + j), .inl (k 0, 8, .inl x)) = TBw ad k N S Wt (va_up L j x) T G E su pa tr sh pv := match j, h with
  | 0, _ => rfl
  | 1, _ => rfl
  | 2, _ => rfl
  | 3, _ => rfl
  | 4, _ => rfl
  | 5, _ => rfl
  | 6, _ => rfl
  | 7, _ => rfl
  | 8, _ => rfl
  | 9, _ => rfl
theorem tb_g {ad : Nat → Nat} {k : Nat → ClassId} {N : Nat → Int32} {S Wt L : Nat → Nat → Int32} {T : Nat → Int32} {G : Nat → Nat → Int64} {E : Nat → Int32} {su pa tr sh : Nat → Int32} {pv : Int32} : (TBw ad k N S Wt L T G E su pa tr sh pv)[25]? = some (ad (25), .inr (0, [.ref (ad 26), .ref (ad 27), .ref (ad 29)])) := rfl
theorem tb_t {ad : Nat → Nat} {k : Nat → ClassId} {N : Nat → Int32} {S Wt L : Nat → Nat → Int32} {T : Nat → Int32} {G : Nat → Nat → Int64} {E : Nat → Int32} {su pa tr sh : Nat → Int32} {pv : Int32} : (TBw ad k N S Wt L T G E su pa tr sh pv)[26]? = some (ad (26), .inl (k 0, 6, .inl T)) := rfl
theorem tb_t_st {ad : Nat → Nat} {k : Nat → ClassId} {N : Nat → Int32} {S Wt L : Nat → Nat → Int32} {T : Nat → Int32} {G : Nat → Nat → Int64} {E : Nat → Int32} {su pa tr sh : Nat → Int32} {pv : Int32} (x : Nat → Int32) : (TBw ad k N S Wt L T G E su pa tr sh pv).set (26) (ad (26), .inl (k 0, 6, .inl x)) = TBw ad k N S Wt L (x) G E su pa tr sh pv := rfl
theorem tb_e {ad : Nat → Nat} {k : Nat → ClassId} {N : Nat → Int32} {S Wt L : Nat → Nat → Int32} {T : Nat → Int32} {G : Nat → Nat → Int64} {E : Nat → Int32} {su pa tr sh : Nat → Int32} {pv : Int32} {u : Nat} (h : u < 2) : (TBw ad k N S Wt L T G E su pa tr sh pv)[27 + 2 * u]? = some (ad (27 + 2 * u), .inr (1, [.ref (ad (28 + 2 * u)), .int (E u)])) := match u, h with
  | 0, _ => rfl
  | 1, _ => rfl
theorem tb_e_st {ad : Nat → Nat} {k : Nat → ClassId} {N : Nat → Int32} {S Wt L : Nat → Nat → Int32} {T : Nat → Int32} {G : Nat → Nat → Int64} {E : Nat → Int32} {su pa tr sh : Nat → Int32} {pv : Int32} {u : Nat} (h : u < 2) (x : Int32) : (TBw ad k N S Wt L T G E su pa tr sh pv).set (27 + 2 * u) (ad (27 + 2 * u), .inr (1, [.ref (ad (28 + 2 * u)), .int x])) = TBw ad k N S Wt L T G (upd E u x) su pa tr sh pv := match u, h with
  | 0, _ => rfl
  | 1, _ => rfl
theorem tb_d {ad : Nat → Nat} {k : Nat → ClassId} {N : Nat → Int32} {S Wt L : Nat → Nat → Int32} {T : Nat → Int32} {G : Nat → Nat → Int64} {E : Nat → Int32} {su pa tr sh : Nat → Int32} {pv : Int32} {u : Nat} (h : u < 2) : (TBw ad k N S Wt L T G E su pa tr sh pv)[28 + 2 * u]? = some (ad (28 + 2 * u), .inl (k 1, 1024, .inr (.inl (G u)))) := match u, h with
  | 0, _ => rfl
  | 1, _ => rfl
theorem tb_d_st {ad : Nat → Nat} {k : Nat → ClassId} {N : Nat → Int32} {S Wt L : Nat → Nat → Int32} {T : Nat → Int32} {G : Nat → Nat → Int64} {E : Nat → Int32} {su pa tr sh : Nat → Int32} {pv : Int32} {u : Nat} (h : u < 2) (x : Nat → Int64) : (TBw ad k N S Wt L T G E su pa tr sh pv).set (28 + 2 * u) (ad (28 + 2 * u), .inl (k 1, 1024, .inr (.inl x))) = TBw ad k N S Wt L T (va_up G u x) E su pa tr sh pv := match u, h with
  | 0, _ => rfl
  | 1, _ => rfl
theorem tb_su {ad : Nat → Nat} {k : Nat → ClassId} {N : Nat → Int32} {S Wt L : Nat → Nat → Int32} {T : Nat → Int32} {G : Nat → Nat → Int64} {E : Nat → Int32} {su pa tr sh : Nat → Int32} {pv : Int32} : (TBw ad k N S Wt L T G E su pa tr sh pv)[31]? = some (ad (31), .inl (k 0, 27, .inl su)) := rfl
theorem tb_su_st {ad : Nat → Nat} {k : Nat → ClassId} {N : Nat → Int32} {S Wt L : Nat → Nat → Int32} {T : Nat → Int32} {G : Nat → Nat → Int64} {E : Nat → Int32} {su pa tr sh : Nat → Int32} {pv : Int32} (x : Nat → Int32) : (TBw ad k N S Wt L T G E su pa tr sh pv).set (31) (ad (31), .inl (k 0, 27, .inl x)) = TBw ad k N S Wt L T G E (x) pa tr sh pv := rfl
theorem tb_pa {ad : Nat → Nat} {k : Nat → ClassId} {N : Nat → Int32} {S Wt L : Nat → Nat → Int32} {T : Nat → Int32} {G : Nat → Nat → Int64} {E : Nat → Int32} {su pa tr sh : Nat → Int32} {pv : Int32} : (TBw ad k N S Wt L T G E su pa tr sh pv)[32]? = some (ad (32), .inl (k 0, 8, .inl pa)) := rfl
theorem tb_pa_st {ad : Nat → Nat} {k : Nat → ClassId} {N : Nat → Int32} {S Wt L : Nat → Nat → Int32} {T : Nat → Int32} {G : Nat → Nat → Int64} {E : Nat → Int32} {su pa tr sh : Nat → Int32} {pv : Int32} (x : Nat → Int32) : (TBw ad k N S Wt L T G E su pa tr sh pv).set (32) (ad (32), .inl (k 0, 8, .inl x)) = TBw ad k N S Wt L T G E su (x) tr sh pv := rfl
theorem tb_tr {ad : Nat → Nat} {k : Nat → ClassId} {N : Nat → Int32} {S Wt L : Nat → Nat → Int32} {T : Nat → Int32} {G : Nat → Nat → Int64} {E : Nat → Int32} {su pa tr sh : Nat → Int32} {pv : Int32} : (TBw ad k N S Wt L T G E su pa tr sh pv)[33]? = some (ad (33), .inl (k 0, 9, .inl tr)) := rfl
theorem tb_tr_st {ad : Nat → Nat} {k : Nat → ClassId} {N : Nat → Int32} {S Wt L : Nat → Nat → Int32} {T : Nat → Int32} {G : Nat → Nat → Int64} {E : Nat → Int32} {su pa tr sh : Nat → Int32} {pv : Int32} (x : Nat → Int32) : (TBw ad k N S Wt L T G E su pa tr sh pv).set (33) (ad (33), .inl (k 0, 9, .inl x)) = TBw ad k N S Wt L T G E su pa (x) sh pv := rfl
theorem tb_sh {ad : Nat → Nat} {k : Nat → ClassId} {N : Nat → Int32} {S Wt L : Nat → Nat → Int32} {T : Nat → Int32} {G : Nat → Nat → Int64} {E : Nat → Int32} {su pa tr sh : Nat → Int32} {pv : Int32} : (TBw ad k N S Wt L T G E su pa tr sh pv)[34]? = some (ad (34), .inl (k 0, 9, .inl sh)) := rfl
theorem tb_sh_st {ad : Nat → Nat} {k : Nat → ClassId} {N : Nat → Int32} {S Wt L : Nat → Nat → Int32} {T : Nat → Int32} {G : Nat → Nat → Int64} {E : Nat → Int32} {su pa tr sh : Nat → Int32} {pv : Int32} (x : Nat → Int32) : (TBw ad k N S Wt L T G E su pa tr sh pv).set (34) (ad (34), .inl (k 0, 9, .inl x)) = TBw ad k N S Wt L T G E su pa tr (x) pv := rfl
def MWw (bd : Nat → Nat) (k : Nat → ClassId) (st wt sm nu po sh up lo : Nat → Int32) (li : Int32) (ro so un to : Nat → Int64) (it : Int32) : va_W :=
  [(bd 0, .inr (4, [.ref (bd 1), .ref (bd 2), .ref (bd 3), .ref (bd 4), .ref (bd 5), .ref (bd 6), .ref (bd 7), .ref (bd 8), .ref (bd 9), .int li, .ref (bd 10), .ref (bd 11), .ref (bd 12), .ref (bd 13), .int it])),
   (bd 1, .inl (k 0, 12, .inl st)),
   (bd 2, .inl (k 0, 108, .inl wt)),
   (bd 3, .inl (k 0, 4, .inl sm)),
   (bd 4, .inl (k 0, 80, .inl nu)),
   (bd 5, .inl (k 0, 6, .inl (fun j => tb_primes.getD j 0))),
   (bd 6, .inl (k 0, 6, .inl po)),
   (bd 7, .inl (k 0, 27, .inl sh)),
   (bd 8, .inl (k 0, 4000, .inl up)),
   (bd 9, .inl (k 0, 4000, .inl lo)),
   (bd 10, .inl (k 1, 56, .inr (.inl ro))),
   (bd 11, .inl (k 1, 9, .inr (.inl so))),
   (bd 12, .inl (k 1, 9, .inr (.inl un))),
   (bd 13, .inl (k 1, 18, .inr (.inl to)))]
theorem mw_o {bd : Nat → Nat} {k : Nat → ClassId} {st wt sm nu po sh up lo : Nat → Int32} {li : Int32} {ro so un to : Nat → Int64} {it : Int32} : (MWw bd k st wt sm nu po sh up lo li ro so un to it)[0]? = some (bd 0, .inr (4, [.ref (bd 1), .ref (bd 2), .ref (bd 3), .ref (bd 4), .ref (bd 5), .ref (bd 6), .ref (bd 7), .ref (bd 8), .ref (bd 9), .int li, .ref (bd 10), .ref (bd 11), .ref (bd 12), .ref (bd 13), .int it])) := rfl
theorem mw_li_st {bd : Nat → Nat} {k : Nat → ClassId} {st wt sm nu po sh up lo : Nat → Int32} {li : Int32} {ro so un to : Nat → Int64} {it : Int32} (x : Int32) : (MWw bd k st wt sm nu po sh up lo li ro so un to it).set 0 (bd 0, .inr (4, [.ref (bd 1), .ref (bd 2), .ref (bd 3), .ref (bd 4), .ref (bd 5), .ref (bd 6), .ref (bd 7), .ref (bd 8), .ref (bd 9), .int x, .ref (bd 10), .ref (bd 11), .ref (bd 12), .ref (bd 13), .int it])) = MWw bd k st wt sm nu po sh up lo (x) ro so un to it := rfl
theorem mw_it_st {bd : Nat → Nat} {k : Nat → ClassId} {st wt sm nu po sh up lo : Nat → Int32} {li : Int32} {ro so un to : Nat → Int64} {it : Int32} (x : Int32) : (MWw bd k st wt sm nu po sh up lo li ro so un to it).set 0 (bd 0, .inr (4, [.ref (bd 1), .ref (bd 2), .ref (bd 3), .ref (bd 4), .ref (bd 5), .ref (bd 6), .ref (bd 7), .ref (bd 8), .ref (bd 9), .int li, .ref (bd 10), .ref (bd 11), .ref (bd 12), .ref (bd 13), .int x])) = MWw bd k st wt sm nu po sh up lo li ro so un to (x) := rfl
theorem mw_st {bd : Nat → Nat} {k : Nat → ClassId} {st wt sm nu po sh up lo : Nat → Int32} {li : Int32} {ro so un to : Nat → Int64} {it : Int32} : (MWw bd k st wt sm nu po sh up lo li ro so un to it)[1]? = some (bd 1, .inl (k 0, 12, .inl st)) := rfl
theorem mw_st_st {bd : Nat → Nat} {k : Nat → ClassId} {st wt sm nu po sh up lo : Nat → Int32} {li : Int32} {ro so un to : Nat → Int64} {it : Int32} (x : Nat → Int32) : (MWw bd k st wt sm nu po sh up lo li ro so un to it).set 1 (bd 1, .inl (k 0, 12, .inl x)) = MWw bd k (x) wt sm nu po sh up lo li ro so un to it := rfl
theorem mw_wt {bd : Nat → Nat} {k : Nat → ClassId} {st wt sm nu po sh up lo : Nat → Int32} {li : Int32} {ro so un to : Nat → Int64} {it : Int32} : (MWw bd k st wt sm nu po sh up lo li ro so un to it)[2]? = some (bd 2, .inl (k 0, 108, .inl wt)) := rfl
theorem mw_wt_st {bd : Nat → Nat} {k : Nat → ClassId} {st wt sm nu po sh up lo : Nat → Int32} {li : Int32} {ro so un to : Nat → Int64} {it : Int32} (x : Nat → Int32) : (MWw bd k st wt sm nu po sh up lo li ro so un to it).set 2 (bd 2, .inl (k 0, 108, .inl x)) = MWw bd k st (x) sm nu po sh up lo li ro so un to it := rfl
theorem mw_sm {bd : Nat → Nat} {k : Nat → ClassId} {st wt sm nu po sh up lo : Nat → Int32} {li : Int32} {ro so un to : Nat → Int64} {it : Int32} : (MWw bd k st wt sm nu po sh up lo li ro so un to it)[3]? = some (bd 3, .inl (k 0, 4, .inl sm)) := rfl
theorem mw_sm_st {bd : Nat → Nat} {k : Nat → ClassId} {st wt sm nu po sh up lo : Nat → Int32} {li : Int32} {ro so un to : Nat → Int64} {it : Int32} (x : Nat → Int32) : (MWw bd k st wt sm nu po sh up lo li ro so un to it).set 3 (bd 3, .inl (k 0, 4, .inl x)) = MWw bd k st wt (x) nu po sh up lo li ro so un to it := rfl
theorem mw_nu {bd : Nat → Nat} {k : Nat → ClassId} {st wt sm nu po sh up lo : Nat → Int32} {li : Int32} {ro so un to : Nat → Int64} {it : Int32} : (MWw bd k st wt sm nu po sh up lo li ro so un to it)[4]? = some (bd 4, .inl (k 0, 80, .inl nu)) := rfl
theorem mw_nu_st {bd : Nat → Nat} {k : Nat → ClassId} {st wt sm nu po sh up lo : Nat → Int32} {li : Int32} {ro so un to : Nat → Int64} {it : Int32} (x : Nat → Int32) : (MWw bd k st wt sm nu po sh up lo li ro so un to it).set 4 (bd 4, .inl (k 0, 80, .inl x)) = MWw bd k st wt sm (x) po sh up lo li ro so un to it := rfl
theorem mw_PR {bd : Nat → Nat} {k : Nat → ClassId} {st wt sm nu po sh up lo : Nat → Int32} {li : Int32} {ro so un to : Nat → Int64} {it : Int32} : (MWw bd k st wt sm nu po sh up lo li ro so un to it)[5]? = some (bd 5, .inl (k 0, 6, .inl (fun j => tb_primes.getD j 0))) := rfl
theorem mw_po {bd : Nat → Nat} {k : Nat → ClassId} {st wt sm nu po sh up lo : Nat → Int32} {li : Int32} {ro so un to : Nat → Int64} {it : Int32} : (MWw bd k st wt sm nu po sh up lo li ro so un to it)[6]? = some (bd 6, .inl (k 0, 6, .inl po)) := rfl
theorem mw_po_st {bd : Nat → Nat} {k : Nat → ClassId} {st wt sm nu po sh up lo : Nat → Int32} {li : Int32} {ro so un to : Nat → Int64} {it : Int32} (x : Nat → Int32) : (MWw bd k st wt sm nu po sh up lo li ro so un to it).set 6 (bd 6, .inl (k 0, 6, .inl x)) = MWw bd k st wt sm nu (x) sh up lo li ro so un to it := rfl
theorem mw_sh {bd : Nat → Nat} {k : Nat → ClassId} {st wt sm nu po sh up lo : Nat → Int32} {li : Int32} {ro so un to : Nat → Int64} {it : Int32} : (MWw bd k st wt sm nu po sh up lo li ro so un to it)[7]? = some (bd 7, .inl (k 0, 27, .inl sh)) := rfl
theorem mw_sh_st {bd : Nat → Nat} {k : Nat → ClassId} {st wt sm nu po sh up lo : Nat → Int32} {li : Int32} {ro so un to : Nat → Int64} {it : Int32} (x : Nat → Int32) : (MWw bd k st wt sm nu po sh up lo li ro so un to it).set 7 (bd 7, .inl (k 0, 27, .inl x)) = MWw bd k st wt sm nu po (x) up lo li ro so un to it := rfl
theorem mw_up {bd : Nat → Nat} {k : Nat → ClassId} {st wt sm nu po sh up lo : Nat → Int32} {li : Int32} {ro so un to : Nat → Int64} {it : Int32} : (MWw bd k st wt sm nu po sh up lo li ro so un to it)[8]? = some (bd 8, .inl (k 0, 4000, .inl up)) := rfl
theorem mw_up_st {bd : Nat → Nat} {k : Nat → ClassId} {st wt sm nu po sh up lo : Nat → Int32} {li : Int32} {ro so un to : Nat → Int64} {it : Int32} (x : Nat → Int32) : (MWw bd k st wt sm nu po sh up lo li ro so un to it).set 8 (bd 8, .inl (k 0, 4000, .inl x)) = MWw bd k st wt sm nu po sh (x) lo li ro so un to it := rfl
theorem mw_lo {bd : Nat → Nat} {k : Nat → ClassId} {st wt sm nu po sh up lo : Nat → Int32} {li : Int32} {ro so un to : Nat → Int64} {it : Int32} : (MWw bd k st wt sm nu po sh up lo li ro so un to it)[9]? = some (bd 9, .inl (k 0, 4000, .inl lo)) := rfl
theorem mw_lo_st {bd : Nat → Nat} {k : Nat → ClassId} {st wt sm nu po sh up lo : Nat → Int32} {li : Int32} {ro so un to : Nat → Int64} {it : Int32} (x : Nat → Int32) : (MWw bd k st wt sm nu po sh up lo li ro so un to it).set 9 (bd 9, .inl (k 0, 4000, .inl x)) = MWw bd k st wt sm nu po sh up (x) li ro so un to it := rfl
theorem mw_ro {bd : Nat → Nat} {k : Nat → ClassId} {st wt sm nu po sh up lo : Nat → Int32} {li : Int32} {ro so un to : Nat → Int64} {it : Int32} : (MWw bd k st wt sm nu po sh up lo li ro so un to it)[10]? = some (bd 10, .inl (k 1, 56, .inr (.inl ro))) := rfl
theorem mw_ro_st {bd : Nat → Nat} {k : Nat → ClassId} {st wt sm nu po sh up lo : Nat → Int32} {li : Int32} {ro so un to : Nat → Int64} {it : Int32} (x : Nat → Int64) : (MWw bd k st wt sm nu po sh up lo li ro so un to it).set 10 (bd 10, .inl (k 1, 56, .inr (.inl x))) = MWw bd k st wt sm nu po sh up lo li (x) so un to it := rfl
theorem mw_so {bd : Nat → Nat} {k : Nat → ClassId} {st wt sm nu po sh up lo : Nat → Int32} {li : Int32} {ro so un to : Nat → Int64} {it : Int32} : (MWw bd k st wt sm nu po sh up lo li ro so un to it)[11]? = some (bd 11, .inl (k 1, 9, .inr (.inl so))) := rfl
theorem mw_so_st {bd : Nat → Nat} {k : Nat → ClassId} {st wt sm nu po sh up lo : Nat → Int32} {li : Int32} {ro so un to : Nat → Int64} {it : Int32} (x : Nat → Int64) : (MWw bd k st wt sm nu po sh up lo li ro so un to it).set 11 (bd 11, .inl (k 1, 9, .inr (.inl x))) = MWw bd k st wt sm nu po sh up lo li ro (x) un to it := rfl
theorem mw_un {bd : Nat → Nat} {k : Nat → ClassId} {st wt sm nu po sh up lo : Nat → Int32} {li : Int32} {ro so un to : Nat → Int64} {it : Int32} : (MWw bd k st wt sm nu po sh up lo li ro so un to it)[12]? = some (bd 12, .inl (k 1, 9, .inr (.inl un))) := rfl
theorem mw_un_st {bd : Nat → Nat} {k : Nat → ClassId} {st wt sm nu po sh up lo : Nat → Int32} {li : Int32} {ro so un to : Nat → Int64} {it : Int32} (x : Nat → Int64) : (MWw bd k st wt sm nu po sh up lo li ro so un to it).set 12 (bd 12, .inl (k 1, 9, .inr (.inl x))) = MWw bd k st wt sm nu po sh up lo li ro so (x) to it := rfl
theorem mw_to {bd : Nat → Nat} {k : Nat → ClassId} {st wt sm nu po sh up lo : Nat → Int32} {li : Int32} {ro so un to : Nat → Int64} {it : Int32} : (MWw bd k st wt sm nu po sh up lo li ro so un to it)[13]? = some (bd 13, .inl (k 1, 18, .inr (.inl to))) := rfl
theorem mw_to_st {bd : Nat → Nat} {k : Nat → ClassId} {st wt sm nu po sh up lo : Nat → Int32} {li : Int32} {ro so un to : Nat → Int64} {it : Int32} (x : Nat → Int64) : (MWw bd k st wt sm nu po sh up lo li ro so un to it).set 13 (bd 13, .inl (k 1, 18, .inr (.inl x))) = MWw bd k st wt sm nu po sh up lo li ro so un (x) it := rfl
