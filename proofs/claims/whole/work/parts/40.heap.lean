/-! ===== reading a heap behind writes ===== -/
section
variable {h : PzH} {a k b j : Nat}
theorem pq_C_sI {v : Int32} : pz_C (pz_sI h a k v) b = pz_C h b := rfl
theorem pq_L_sI {v : Int32} : pz_L (pz_sI h a k v) b = pz_L h b := rfl
theorem pq_J_sI {v : Int32} : pz_J (pz_sI h a k v) b j = pz_J h b j := rfl
theorem pq_R_sI {v : Int32} : pz_R (pz_sI h a k v) b j = pz_R h b j := rfl
theorem pq_N_sI {v : Int32} : pz_N (pz_sI h a k v) = pz_N h := rfl
theorem pq_S_sI {v : Int32} : pz_S (pz_sI h a k v) = pz_S h := rfl
theorem pq_I_sI {v : Int32} : pz_I (pz_sI h a k v) b j = if b = a ∧ j = k then v else pz_I h b j := rfl
theorem pq_C_sJ {v : Int64} : pz_C (pz_sJ h a k v) b = pz_C h b := rfl
theorem pq_L_sJ {v : Int64} : pz_L (pz_sJ h a k v) b = pz_L h b := rfl
theorem pq_I_sJ {v : Int64} : pz_I (pz_sJ h a k v) b j = pz_I h b j := rfl
theorem pq_R_sJ {v : Int64} : pz_R (pz_sJ h a k v) b j = pz_R h b j := rfl
theorem pq_N_sJ {v : Int64} : pz_N (pz_sJ h a k v) = pz_N h := rfl
theorem pq_S_sJ {v : Int64} : pz_S (pz_sJ h a k v) = pz_S h := rfl
theorem pq_J_sJ {v : Int64} : pz_J (pz_sJ h a k v) b j = if b = a ∧ j = k then v else pz_J h b j := rfl
theorem pq_C_sR {v : Option Nat} : pz_C (pz_sR h a k v) b = pz_C h b := rfl
theorem pq_L_sR {v : Option Nat} : pz_L (pz_sR h a k v) b = pz_L h b := rfl
theorem pq_I_sR {v : Option Nat} : pz_I (pz_sR h a k v) b j = pz_I h b j := rfl
theorem pq_J_sR {v : Option Nat} : pz_J (pz_sR h a k v) b j = pz_J h b j := rfl
theorem pq_N_sR {v : Option Nat} : pz_N (pz_sR h a k v) = pz_N h := rfl
theorem pq_S_sR {v : Option Nat} : pz_S (pz_sR h a k v) = pz_S h := rfl
theorem pq_R_sR {v : Option Nat} : pz_R (pz_sR h a k v) b j = if b = a ∧ j = k then v else pz_R h b j := rfl
theorem pq_C_sA {f : Nat → Int32} : pz_C (pz_sA h a f) b = pz_C h b := rfl
theorem pq_L_sA {f : Nat → Int32} : pz_L (pz_sA h a f) b = pz_L h b := rfl
theorem pq_J_sA {f : Nat → Int32} : pz_J (pz_sA h a f) b j = pz_J h b j := rfl
theorem pq_R_sA {f : Nat → Int32} : pz_R (pz_sA h a f) b j = pz_R h b j := rfl
theorem pq_N_sA {f : Nat → Int32} : pz_N (pz_sA h a f) = pz_N h := rfl
theorem pq_S_sA {f : Nat → Int32} : pz_S (pz_sA h a f) = pz_S h := rfl
theorem pq_I_sA {f : Nat → Int32} : pz_I (pz_sA h a f) b = if b = a then f else pz_I h b := rfl
end
