/-- has a thing with a lesser number of its scope the name of t then -/
def cl_db (S : dv_S) (t : Nat) : Bool := (dv_fo (fun k => decide (S.2.1 22 k = S.2.1 22 t) && decide (tx S (nn S true k) = tx S (nn S true t))) t).isSome
def cl_no (S : dv_S) (n t : Nat) : Bool := (dv_fo (fun k => !decide (nI k = nI t) && decide (S.2.1 22 k = nI (hmS S t)) && decide (tx S (nn S true k) = tx S (nn S true t))) n).isSome
def cl_wc (S : dv_S) (un t : Nat) : Bool := (dv_fo (fun u => decide (hmS S (utS S u) < hmS S t) && wi S (usS S u) (hmS S t) && decide (tx S (nn S true (utS S u)) = tx S (nn S true t))) un).isSome
def cl_us (S : dv_S) (n un t : Nat) : Bool := (dv_fo (fun u => decide (utS S u = t) && cl_st S n u) un).isSome
