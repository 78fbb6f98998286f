def X0F (r : Nat → Nat) (v : Nat → Int32) : List Value := [.int (v 0), .int (v 1), .int (v 2), .int (v 3), .int (v 4), .ref (r 5), .ref (r 6), .int (v 7), .ref (r 8), .ref (r 9), .ref (r 10), .ref (r 11), .ref (r 12), .ref (r 13), .ref (r 14), .int (v 15), .int (v 16), .int (v 17), .int (v 18)]
def X0W (g : kG) (o : Nat) (r : Nat → Nat) (v : Nat → Int32) (a : Nat → Nat → Int32) : va_W := [(o, .inr (4, X0F r v)), (r 5, .inl (g.2.1 2, 6, .inl (a 5))), (r 6, .inl (g.2.1 2, 6, .inl (a 6))), (r 8, .inl (g.2.1 2, 6, .inl (a 8))), (r 9, .inl (g.2.1 2, 6, .inl (a 9))), (r 10, .inl (g.2.1 2, 6, .inl (a 10))), (r 11, .inl (g.2.1 2, 6, .inl (a 11))), (r 12, .inl (g.2.1 2, 6, .inl (a 12))), (r 13, .inl (g.2.1 2, 8, .inl (a 13))), (r 14, .inl (g.2.1 2, 4, .inl (a 14)))]
theorem kFX0 : kFl RX0 TX0 19 4 tyX0 := ⟨rfl, tyX0_ok, nmX0, ku_X0⟩
theorem X0s_0 {g : kG} {o : Nat} {r : Nat → Nat} {v : Nat → Int32} {a : Nat → Nat → Int32} {x : Int32} : (X0W g o r v a).set 0 (o, .inr (4, (X0F r v).set 0 (.int x))) = X0W g o r (upd v 0 x) a := rfl
theorem X0s_1 {g : kG} {o : Nat} {r : Nat → Nat} {v : Nat → Int32} {a : Nat → Nat → Int32} {x : Int32} : (X0W g o r v a).set 0 (o, .inr (4, (X0F r v).set 1 (.int x))) = X0W g o r (upd v 1 x) a := rfl
theorem X0s_2 {g : kG} {o : Nat} {r : Nat → Nat} {v : Nat → Int32} {a : Nat → Nat → Int32} {x : Int32} : (X0W g o r v a).set 0 (o, .inr (4, (X0F r v).set 2 (.int x))) = X0W g o r (upd v 2 x) a := rfl
theorem X0s_3 {g : kG} {o : Nat} {r : Nat → Nat} {v : Nat → Int32} {a : Nat → Nat → Int32} {x : Int32} : (X0W g o r v a).set 0 (o, .inr (4, (X0F r v).set 3 (.int x))) = X0W g o r (upd v 3 x) a := rfl
theorem X0s_4 {g : kG} {o : Nat} {r : Nat → Nat} {v : Nat → Int32} {a : Nat → Nat → Int32} {x : Int32} : (X0W g o r v a).set 0 (o, .inr (4, (X0F r v).set 4 (.int x))) = X0W g o r (upd v 4 x) a := rfl
theorem X0t_5 {g : kG} {o : Nat} {r : Nat → Nat} {v : Nat → Int32} {a : Nat → Nat → Int32} {f : Nat → Int32} : (X0W g o r v a).set 1 (r 5, .inl (g.2.1 2, 6, .inl f)) = X0W g o r v (va_up a 5 f) := rfl
theorem X0t_6 {g : kG} {o : Nat} {r : Nat → Nat} {v : Nat → Int32} {a : Nat → Nat → Int32} {f : Nat → Int32} : (X0W g o r v a).set 2 (r 6, .inl (g.2.1 2, 6, .inl f)) = X0W g o r v (va_up a 6 f) := rfl
theorem X0s_7 {g : kG} {o : Nat} {r : Nat → Nat} {v : Nat → Int32} {a : Nat → Nat → Int32} {x : Int32} : (X0W g o r v a).set 0 (o, .inr (4, (X0F r v).set 7 (.int x))) = X0W g o r (upd v 7 x) a := rfl
theorem X0t_8 {g : kG} {o : Nat} {r : Nat → Nat} {v : Nat → Int32} {a : Nat → Nat → Int32} {f : Nat → Int32} : (X0W g o r v a).set 3 (r 8, .inl (g.2.1 2, 6, .inl f)) = X0W g o r v (va_up a 8 f) := rfl
theorem X0t_9 {g : kG} {o : Nat} {r : Nat → Nat} {v : Nat → Int32} {a : Nat → Nat → Int32} {f : Nat → Int32} : (X0W g o r v a).set 4 (r 9, .inl (g.2.1 2, 6, .inl f)) = X0W g o r v (va_up a 9 f) := rfl
theorem X0t_10 {g : kG} {o : Nat} {r : Nat → Nat} {v : Nat → Int32} {a : Nat → Nat → Int32} {f : Nat → Int32} : (X0W g o r v a).set 5 (r 10, .inl (g.2.1 2, 6, .inl f)) = X0W g o r v (va_up a 10 f) := rfl
theorem X0t_11 {g : kG} {o : Nat} {r : Nat → Nat} {v : Nat → Int32} {a : Nat → Nat → Int32} {f : Nat → Int32} : (X0W g o r v a).set 6 (r 11, .inl (g.2.1 2, 6, .inl f)) = X0W g o r v (va_up a 11 f) := rfl
theorem X0t_12 {g : kG} {o : Nat} {r : Nat → Nat} {v : Nat → Int32} {a : Nat → Nat → Int32} {f : Nat → Int32} : (X0W g o r v a).set 7 (r 12, .inl (g.2.1 2, 6, .inl f)) = X0W g o r v (va_up a 12 f) := rfl
theorem X0t_13 {g : kG} {o : Nat} {r : Nat → Nat} {v : Nat → Int32} {a : Nat → Nat → Int32} {f : Nat → Int32} : (X0W g o r v a).set 8 (r 13, .inl (g.2.1 2, 8, .inl f)) = X0W g o r v (va_up a 13 f) := rfl
theorem X0t_14 {g : kG} {o : Nat} {r : Nat → Nat} {v : Nat → Int32} {a : Nat → Nat → Int32} {f : Nat → Int32} : (X0W g o r v a).set 9 (r 14, .inl (g.2.1 2, 4, .inl f)) = X0W g o r v (va_up a 14 f) := rfl
theorem X0s_15 {g : kG} {o : Nat} {r : Nat → Nat} {v : Nat → Int32} {a : Nat → Nat → Int32} {x : Int32} : (X0W g o r v a).set 0 (o, .inr (4, (X0F r v).set 15 (.int x))) = X0W g o r (upd v 15 x) a := rfl
theorem X0s_16 {g : kG} {o : Nat} {r : Nat → Nat} {v : Nat → Int32} {a : Nat → Nat → Int32} {x : Int32} : (X0W g o r v a).set 0 (o, .inr (4, (X0F r v).set 16 (.int x))) = X0W g o r (upd v 16 x) a := rfl
theorem X0s_17 {g : kG} {o : Nat} {r : Nat → Nat} {v : Nat → Int32} {a : Nat → Nat → Int32} {x : Int32} : (X0W g o r v a).set 0 (o, .inr (4, (X0F r v).set 17 (.int x))) = X0W g o r (upd v 17 x) a := rfl
theorem X0s_18 {g : kG} {o : Nat} {r : Nat → Nat} {v : Nat → Int32} {a : Nat → Nat → Int32} {x : Int32} : (X0W g o r v a).set 0 (o, .inr (4, (X0F r v).set 18 (.int x))) = X0W g o r (upd v 18 x) a := rfl
def X1F (r : Nat → Nat) (v : Nat → Int32) : List Value := [.ref (r 0), .int (v 1), .int (v 2), .int (v 3), .ref (r 4)]
def X1W (g : kG) (o : Nat) (r : Nat → Nat) (v : Nat → Int32) (a : Nat → Nat → Int32) : va_W := [(o, .inr (5, X1F r v)), (r 0, .inl (g.2.1 1, 60, .inl (a 0))), (r 4, .inl (g.2.1 2, 3, .inl (a 4)))]
theorem kFX1 : kFl RX1 TX1 5 5 tyX1 := ⟨rfl, tyX1_ok, nmX1, ku_X1⟩
theorem X1t_0 {g : kG} {o : Nat} {r : Nat → Nat} {v : Nat → Int32} {a : Nat → Nat → Int32} {f : Nat → Int32} : (X1W g o r v a).set 1 (r 0, .inl (g.2.1 1, 60, .inl f)) = X1W g o r v (va_up a 0 f) := rfl
theorem X1s_1 {g : kG} {o : Nat} {r : Nat → Nat} {v : Nat → Int32} {a : Nat → Nat → Int32} {x : Int32} : (X1W g o r v a).set 0 (o, .inr (5, (X1F r v).set 1 (.int x))) = X1W g o r (upd v 1 x) a := rfl
theorem X1s_2 {g : kG} {o : Nat} {r : Nat → Nat} {v : Nat → Int32} {a : Nat → Nat → Int32} {x : Int32} : (X1W g o r v a).set 0 (o, .inr (5, (X1F r v).set 2 (.int x))) = X1W g o r (upd v 2 x) a := rfl
theorem X1s_3 {g : kG} {o : Nat} {r : Nat → Nat} {v : Nat → Int32} {a : Nat → Nat → Int32} {x : Int32} : (X1W g o r v a).set 0 (o, .inr (5, (X1F r v).set 3 (.int x))) = X1W g o r (upd v 3 x) a := rfl
theorem X1t_4 {g : kG} {o : Nat} {r : Nat → Nat} {v : Nat → Int32} {a : Nat → Nat → Int32} {f : Nat → Int32} : (X1W g o r v a).set 2 (r 4, .inl (g.2.1 2, 3, .inl f)) = X1W g o r v (va_up a 4 f) := rfl
def X3F (r : Nat → Nat) (v : Nat → Int32) : List Value := [.int (v 0), .int (v 1), .int (v 2)]
def X3W (g : kG) (o : Nat) (r : Nat → Nat) (v : Nat → Int32) (a : Nat → Nat → Int32) : va_W := [(o, .inr (7, X3F r v))]
theorem kFX3 : kFl RX3 TX3 3 7 tyX3 := ⟨rfl, tyX3_ok, nmX3, ku_X3⟩
theorem X3s_0 {g : kG} {o : Nat} {r : Nat → Nat} {v : Nat → Int32} {a : Nat → Nat → Int32} {x : Int32} : (X3W g o r v a).set 0 (o, .inr (7, (X3F r v).set 0 (.int x))) = X3W g o r (upd v 0 x) a := rfl
theorem X3s_1 {g : kG} {o : Nat} {r : Nat → Nat} {v : Nat → Int32} {a : Nat → Nat → Int32} {x : Int32} : (X3W g o r v a).set 0 (o, .inr (7, (X3F r v).set 1 (.int x))) = X3W g o r (upd v 1 x) a := rfl
theorem X3s_2 {g : kG} {o : Nat} {r : Nat → Nat} {v : Nat → Int32} {a : Nat → Nat → Int32} {x : Int32} : (X3W g o r v a).set 0 (o, .inr (7, (X3F r v).set 2 (.int x))) = X3W g o r (upd v 2 x) a := rfl
