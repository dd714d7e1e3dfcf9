/-! the model's fields, one written -/
section MV
variable {A : Nat → Nat} {I : Nat → Int32} {J : Nat → Int64}
theorem mv_0 {x : Int32} : (mo_V A I J).set 0 (.int x) = mo_V A (va_up I 0 x) J := rfl
theorem mv_1 {x : Int32} : (mo_V A I J).set 1 (.int x) = mo_V A (va_up I 1 x) J := rfl
theorem mv_3 {x : Int32} : (mo_V A I J).set 3 (.int x) = mo_V A (va_up I 3 x) J := rfl
theorem mv_5 {x : Int32} : (mo_V A I J).set 5 (.int x) = mo_V A (va_up I 5 x) J := rfl
theorem mv_6 {x : Int32} : (mo_V A I J).set 6 (.int x) = mo_V A (va_up I 6 x) J := rfl
theorem mv_7 {x : Int32} : (mo_V A I J).set 7 (.int x) = mo_V A (va_up I 7 x) J := rfl
theorem mv_8 {x : Int32} : (mo_V A I J).set 8 (.int x) = mo_V A (va_up I 8 x) J := rfl
theorem mv_10 {x : Int32} : (mo_V A I J).set 10 (.int x) = mo_V A (va_up I 10 x) J := rfl
theorem mv_11 {x : Int32} : (mo_V A I J).set 11 (.int x) = mo_V A (va_up I 11 x) J := rfl
theorem mv_14 {x : Int32} : (mo_V A I J).set 14 (.int x) = mo_V A (va_up I 14 x) J := rfl
theorem mv_23 {x : Int32} : (mo_V A I J).set 23 (.int x) = mo_V A (va_up I 23 x) J := rfl
theorem mv_34 {x : Int32} : (mo_V A I J).set 34 (.int x) = mo_V A (va_up I 34 x) J := rfl
theorem mv_36 {x : Int32} : (mo_V A I J).set 36 (.int x) = mo_V A (va_up I 36 x) J := rfl
theorem mv_38 {x : Int32} : (mo_V A I J).set 38 (.int x) = mo_V A (va_up I 38 x) J := rfl
theorem mv_44 {x : Int32} : (mo_V A I J).set 44 (.int x) = mo_V A (va_up I 44 x) J := rfl
theorem mv_49 {x : Int32} : (mo_V A I J).set 49 (.int x) = mo_V A (va_up I 49 x) J := rfl
theorem mv_51 {x : Int32} : (mo_V A I J).set 51 (.int x) = mo_V A (va_up I 51 x) J := rfl
theorem mv_54 {x : Int32} : (mo_V A I J).set 54 (.int x) = mo_V A (va_up I 54 x) J := rfl
theorem mv_55 {x : Int32} : (mo_V A I J).set 55 (.int x) = mo_V A (va_up I 55 x) J := rfl
theorem mv_9 {x : Int64} : (mo_V A I J).set 9 (.long x) = mo_V A I (va_up J 9 x) := rfl
theorem mv_43 {x : Int64} : (mo_V A I J).set 43 (.long x) = mo_V A I (va_up J 43 x) := rfl
theorem mv_52 {x : Int64} : (mo_V A I J).set 52 (.long x) = mo_V A I (va_up J 52 x) := rfl
theorem mv_53 {x : Int64} : (mo_V A I J).set 53 (.long x) = mo_V A I (va_up J 53 x) := rfl
end MV
theorem va_up_t {α : Type} {f : Nat → α} {k j : Nat} {v x : α} (h2 : f j = x) (h : j ≠ k) : va_up f k v j = x := (va_up_n h).trans h2
theorem va_up_mt {α : Type} {f : Nat → Nat → α} {k j i : Nat} {v : Nat → α} {x : α} (h2 : f j i = x) (h : j ≠ k) : va_up f k v j i = x := (congrFun (va_up_n h) i).trans h2
theorem va_up_ms {α : Type} {f : Nat → Nat → α} {k i : Nat} {v : Nat → α} {x : α} (h2 : v i = x) : va_up f k v k i = x := (congrFun va_up_s i).trans h2
theorem pk_ut {f : Nat → Int32} {k j : Nat} {y x : Int32} (h2 : f j = x) (h : j ≠ k) : upd f k y j = x := (pk_un h).trans h2
theorem pk_uLt {f : Nat → Int64} {k j : Nat} {y x : Int64} (h2 : f j = x) (h : j ≠ k) : vp_updL f k y j = x := (pk_uLn h).trans h2
