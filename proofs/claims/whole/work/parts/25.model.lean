/-! the reference: its ints by a function (0 fault, 1 why, 2 clauses, 3 drafted, 4 at, 5 bad, 6 unlike, 7 rows, 8 literals, 9 names, 10 great, 11 claims, 12 shown, 13 wanted, 14 got); it is cell 27, its rows are the cells 28 to 51 -/
def st_ (m : Nat → Int) (i : Nat) (v : Int) : Nat → Int := fun j => if j = i then v else m j
theorem st_at (m : Nat → Int) (i : Nat) (v : Int) : st_ m i v i = v := if_pos rfl
theorem st_ne {m : Nat → Int} {i j : Nat} {v : Int} (h : j ≠ i) : st_ m i v j = m j := if_neg h
theorem st_st (m : Nat → Int) (i : Nat) (v u : Int) : st_ (st_ m i v) i u = st_ m i u := by
  funext j
  unfold st_
  split <;> rfl
theorem st_swap {m : Nat → Int} {i j : Nat} {v u : Int} (h : i < j) : st_ (st_ m j v) i u = st_ (st_ m i u) j v := by
  funext k
  unfold st_
  by_cases h1 : k = i
  · have : k ≠ j := by omega
    simp [h1]
    omega
  · simp [h1]
theorem st_self {m : Nat → Int} {i : Nat} {v : Int} (h : m i = v) : st_ m i v = m := by
  funext j
  unfold st_
  split
  · next e => rw [e, h]
  · rfl
def mF (m : Nat → Int) : List Value := [.int (iZ (m 0)), .int (iZ (m 1)), .int (iZ (m 2)), .ref 31, .ref 32, .ref 33, .ref 34, .ref 35, .ref 36, .ref 37, .ref 38, .ref 39, .ref 40, .int (iZ (m 3)), .int (iZ (m 4)), .int (iZ (m 5)), .int (iZ (m 6)), .ref 41, .ref 42, .ref 43, .ref 44, .int (iZ (m 7)), .int (iZ (m 8)), .int (iZ (m 9)), .int (iZ (m 10)), .ref 45, .ref 46, .ref 47, .int (iZ (m 11)), .ref 48, .ref 49, .ref 50, .ref 51, .ref 52, .ref 53, .ref 54, .int (iZ (m 12)), .int (iZ (m 13)), .int (iZ (m 14))]
theorem mF_len (m : Nat → Int) : (mF m).length = 39 := rfl
theorem mg_0 (m : Nat → Int) : (mF m)[0]? = some (.int (iZ (m 0))) := rfl
theorem ms_0 (m : Nat → Int) (v : Int) : (mF m).set 0 (.int (iZ v)) = mF (st_ m 0 v) := rfl
theorem mg_1 (m : Nat → Int) : (mF m)[1]? = some (.int (iZ (m 1))) := rfl
theorem ms_1 (m : Nat → Int) (v : Int) : (mF m).set 1 (.int (iZ v)) = mF (st_ m 1 v) := rfl
theorem mg_2 (m : Nat → Int) : (mF m)[2]? = some (.int (iZ (m 2))) := rfl
theorem ms_2 (m : Nat → Int) (v : Int) : (mF m).set 2 (.int (iZ v)) = mF (st_ m 2 v) := rfl
theorem mg_3 (m : Nat → Int) : (mF m)[3]? = some (.ref 31) := rfl
theorem mg_4 (m : Nat → Int) : (mF m)[4]? = some (.ref 32) := rfl
theorem mg_5 (m : Nat → Int) : (mF m)[5]? = some (.ref 33) := rfl
theorem mg_6 (m : Nat → Int) : (mF m)[6]? = some (.ref 34) := rfl
theorem mg_7 (m : Nat → Int) : (mF m)[7]? = some (.ref 35) := rfl
theorem mg_8 (m : Nat → Int) : (mF m)[8]? = some (.ref 36) := rfl
theorem mg_9 (m : Nat → Int) : (mF m)[9]? = some (.ref 37) := rfl
theorem mg_10 (m : Nat → Int) : (mF m)[10]? = some (.ref 38) := rfl
theorem mg_11 (m : Nat → Int) : (mF m)[11]? = some (.ref 39) := rfl
theorem mg_12 (m : Nat → Int) : (mF m)[12]? = some (.ref 40) := rfl
theorem mg_13 (m : Nat → Int) : (mF m)[13]? = some (.int (iZ (m 3))) := rfl
theorem ms_13 (m : Nat → Int) (v : Int) : (mF m).set 13 (.int (iZ v)) = mF (st_ m 3 v) := rfl
theorem mg_14 (m : Nat → Int) : (mF m)[14]? = some (.int (iZ (m 4))) := rfl
theorem ms_14 (m : Nat → Int) (v : Int) : (mF m).set 14 (.int (iZ v)) = mF (st_ m 4 v) := rfl
theorem mg_15 (m : Nat → Int) : (mF m)[15]? = some (.int (iZ (m 5))) := rfl
theorem ms_15 (m : Nat → Int) (v : Int) : (mF m).set 15 (.int (iZ v)) = mF (st_ m 5 v) := rfl
theorem mg_16 (m : Nat → Int) : (mF m)[16]? = some (.int (iZ (m 6))) := rfl
theorem ms_16 (m : Nat → Int) (v : Int) : (mF m).set 16 (.int (iZ v)) = mF (st_ m 6 v) := rfl
theorem mg_17 (m : Nat → Int) : (mF m)[17]? = some (.ref 41) := rfl
theorem mg_18 (m : Nat → Int) : (mF m)[18]? = some (.ref 42) := rfl
theorem mg_19 (m : Nat → Int) : (mF m)[19]? = some (.ref 43) := rfl
theorem mg_20 (m : Nat → Int) : (mF m)[20]? = some (.ref 44) := rfl
theorem mg_21 (m : Nat → Int) : (mF m)[21]? = some (.int (iZ (m 7))) := rfl
theorem ms_21 (m : Nat → Int) (v : Int) : (mF m).set 21 (.int (iZ v)) = mF (st_ m 7 v) := rfl
theorem mg_22 (m : Nat → Int) : (mF m)[22]? = some (.int (iZ (m 8))) := rfl
theorem ms_22 (m : Nat → Int) (v : Int) : (mF m).set 22 (.int (iZ v)) = mF (st_ m 8 v) := rfl
theorem mg_23 (m : Nat → Int) : (mF m)[23]? = some (.int (iZ (m 9))) := rfl
theorem ms_23 (m : Nat → Int) (v : Int) : (mF m).set 23 (.int (iZ v)) = mF (st_ m 9 v) := rfl
theorem mg_24 (m : Nat → Int) : (mF m)[24]? = some (.int (iZ (m 10))) := rfl
theorem ms_24 (m : Nat → Int) (v : Int) : (mF m).set 24 (.int (iZ v)) = mF (st_ m 10 v) := rfl
theorem mg_25 (m : Nat → Int) : (mF m)[25]? = some (.ref 45) := rfl
theorem mg_26 (m : Nat → Int) : (mF m)[26]? = some (.ref 46) := rfl
theorem mg_27 (m : Nat → Int) : (mF m)[27]? = some (.ref 47) := rfl
theorem mg_28 (m : Nat → Int) : (mF m)[28]? = some (.int (iZ (m 11))) := rfl
theorem ms_28 (m : Nat → Int) (v : Int) : (mF m).set 28 (.int (iZ v)) = mF (st_ m 11 v) := rfl
theorem mg_29 (m : Nat → Int) : (mF m)[29]? = some (.ref 48) := rfl
theorem mg_30 (m : Nat → Int) : (mF m)[30]? = some (.ref 49) := rfl
theorem mg_31 (m : Nat → Int) : (mF m)[31]? = some (.ref 50) := rfl
theorem mg_32 (m : Nat → Int) : (mF m)[32]? = some (.ref 51) := rfl
theorem mg_33 (m : Nat → Int) : (mF m)[33]? = some (.ref 52) := rfl
theorem mg_34 (m : Nat → Int) : (mF m)[34]? = some (.ref 53) := rfl
theorem mg_35 (m : Nat → Int) : (mF m)[35]? = some (.ref 54) := rfl
theorem mg_36 (m : Nat → Int) : (mF m)[36]? = some (.int (iZ (m 12))) := rfl
theorem ms_36 (m : Nat → Int) (v : Int) : (mF m).set 36 (.int (iZ v)) = mF (st_ m 12 v) := rfl
theorem mg_37 (m : Nat → Int) : (mF m)[37]? = some (.int (iZ (m 13))) := rfl
theorem ms_37 (m : Nat → Int) (v : Int) : (mF m).set 37 (.int (iZ v)) = mF (st_ m 13 v) := rfl
theorem mg_38 (m : Nat → Int) : (mF m)[38]? = some (.int (iZ (m 14))) := rfl
theorem ms_38 (m : Nat → Int) (v : Int) : (mF m).set 38 (.int (iZ v)) = mF (st_ m 14 v) := rfl
