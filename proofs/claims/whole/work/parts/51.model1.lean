/-! ===== the reference: its object, its rows, its little helpers ===== -/
abbrev MA : Type := Nat × Nat × Nat × Nat × Nat × Nat × Nat × Nat × Nat
abbrev MR : Type := Nat × Int × Int × Int × Int × Int × Int × Int × Bool × Int × Int × Int × Int × Int × Int × Int × Int × Int × Int × Int
abbrev mfl (a : MA) (r : MR) : List Value := [.ref a.1, .ref a.2.1, .ref a.2.2.1, .ref a.2.2.2.1, .ref a.2.2.2.2.1, .ref r.1, .int (iI r.2.1), .int (iI r.2.2.1), .int (iI r.2.2.2.1), .int (iI r.2.2.2.2.1), .int (iI r.2.2.2.2.2.1), .int (iI r.2.2.2.2.2.2.1), .int (iI r.2.2.2.2.2.2.2.1), .int (iI (b2 r.2.2.2.2.2.2.2.2.1)), .ref a.2.2.2.2.2.1, .int (iI r.2.2.2.2.2.2.2.2.2.1), .ref a.2.2.2.2.2.2.1, .int (iI r.2.2.2.2.2.2.2.2.2.2.1), .int (iI r.2.2.2.2.2.2.2.2.2.2.2.1), .int (iI r.2.2.2.2.2.2.2.2.2.2.2.2.1), .int (iI r.2.2.2.2.2.2.2.2.2.2.2.2.2.1), .int (iI r.2.2.2.2.2.2.2.2.2.2.2.2.2.2.1), .int (iI r.2.2.2.2.2.2.2.2.2.2.2.2.2.2.2.1), .int (iI r.2.2.2.2.2.2.2.2.2.2.2.2.2.2.2.2.1), .int (iI r.2.2.2.2.2.2.2.2.2.2.2.2.2.2.2.2.2.1), .int (iI r.2.2.2.2.2.2.2.2.2.2.2.2.2.2.2.2.2.2.1), .ref a.2.2.2.2.2.2.2.1, .ref a.2.2.2.2.2.2.2.2, .int (iI r.2.2.2.2.2.2.2.2.2.2.2.2.2.2.2.2.2.2.2)]
def r_rr (r : MR) (v : Nat) : MR := (v, r.2.1, r.2.2.1, r.2.2.2.1, r.2.2.2.2.1, r.2.2.2.2.2.1, r.2.2.2.2.2.2.1, r.2.2.2.2.2.2.2.1, r.2.2.2.2.2.2.2.2.1, r.2.2.2.2.2.2.2.2.2.1, r.2.2.2.2.2.2.2.2.2.2.1, r.2.2.2.2.2.2.2.2.2.2.2.1, r.2.2.2.2.2.2.2.2.2.2.2.2.1, r.2.2.2.2.2.2.2.2.2.2.2.2.2.1, r.2.2.2.2.2.2.2.2.2.2.2.2.2.2.1, r.2.2.2.2.2.2.2.2.2.2.2.2.2.2.2.1, r.2.2.2.2.2.2.2.2.2.2.2.2.2.2.2.2.1, r.2.2.2.2.2.2.2.2.2.2.2.2.2.2.2.2.2.1, r.2.2.2.2.2.2.2.2.2.2.2.2.2.2.2.2.2.2.1, r.2.2.2.2.2.2.2.2.2.2.2.2.2.2.2.2.2.2.2)
def r_un (r : MR) (v : Int) : MR := (r.1, v, r.2.2.1, r.2.2.2.1, r.2.2.2.2.1, r.2.2.2.2.2.1, r.2.2.2.2.2.2.1, r.2.2.2.2.2.2.2.1, r.2.2.2.2.2.2.2.2.1, r.2.2.2.2.2.2.2.2.2.1, r.2.2.2.2.2.2.2.2.2.2.1, r.2.2.2.2.2.2.2.2.2.2.2.1, r.2.2.2.2.2.2.2.2.2.2.2.2.1, r.2.2.2.2.2.2.2.2.2.2.2.2.2.1, r.2.2.2.2.2.2.2.2.2.2.2.2.2.2.1, r.2.2.2.2.2.2.2.2.2.2.2.2.2.2.2.1, r.2.2.2.2.2.2.2.2.2.2.2.2.2.2.2.2.1, r.2.2.2.2.2.2.2.2.2.2.2.2.2.2.2.2.2.1, r.2.2.2.2.2.2.2.2.2.2.2.2.2.2.2.2.2.2.1, r.2.2.2.2.2.2.2.2.2.2.2.2.2.2.2.2.2.2.2)
def r_th (r : MR) (v : Int) : MR := (r.1, r.2.1, v, r.2.2.2.1, r.2.2.2.2.1, r.2.2.2.2.2.1, r.2.2.2.2.2.2.1, r.2.2.2.2.2.2.2.1, r.2.2.2.2.2.2.2.2.1, r.2.2.2.2.2.2.2.2.2.1, r.2.2.2.2.2.2.2.2.2.2.1, r.2.2.2.2.2.2.2.2.2.2.2.1, r.2.2.2.2.2.2.2.2.2.2.2.2.1, r.2.2.2.2.2.2.2.2.2.2.2.2.2.1, r.2.2.2.2.2.2.2.2.2.2.2.2.2.2.1, r.2.2.2.2.2.2.2.2.2.2.2.2.2.2.2.1, r.2.2.2.2.2.2.2.2.2.2.2.2.2.2.2.2.1, r.2.2.2.2.2.2.2.2.2.2.2.2.2.2.2.2.2.1, r.2.2.2.2.2.2.2.2.2.2.2.2.2.2.2.2.2.2.1, r.2.2.2.2.2.2.2.2.2.2.2.2.2.2.2.2.2.2.2)
def r_lc (r : MR) (v : Int) : MR := (r.1, r.2.1, r.2.2.1, v, r.2.2.2.2.1, r.2.2.2.2.2.1, r.2.2.2.2.2.2.1, r.2.2.2.2.2.2.2.1, r.2.2.2.2.2.2.2.2.1, r.2.2.2.2.2.2.2.2.2.1, r.2.2.2.2.2.2.2.2.2.2.1, r.2.2.2.2.2.2.2.2.2.2.2.1, r.2.2.2.2.2.2.2.2.2.2.2.2.1, r.2.2.2.2.2.2.2.2.2.2.2.2.2.1, r.2.2.2.2.2.2.2.2.2.2.2.2.2.2.1, r.2.2.2.2.2.2.2.2.2.2.2.2.2.2.2.1, r.2.2.2.2.2.2.2.2.2.2.2.2.2.2.2.2.1, r.2.2.2.2.2.2.2.2.2.2.2.2.2.2.2.2.2.1, r.2.2.2.2.2.2.2.2.2.2.2.2.2.2.2.2.2.2.1, r.2.2.2.2.2.2.2.2.2.2.2.2.2.2.2.2.2.2.2)
def r_re (r : MR) (v : Int) : MR := (r.1, r.2.1, r.2.2.1, r.2.2.2.1, v, r.2.2.2.2.2.1, r.2.2.2.2.2.2.1, r.2.2.2.2.2.2.2.1, r.2.2.2.2.2.2.2.2.1, r.2.2.2.2.2.2.2.2.2.1, r.2.2.2.2.2.2.2.2.2.2.1, r.2.2.2.2.2.2.2.2.2.2.2.1, r.2.2.2.2.2.2.2.2.2.2.2.2.1, r.2.2.2.2.2.2.2.2.2.2.2.2.2.1, r.2.2.2.2.2.2.2.2.2.2.2.2.2.2.1, r.2.2.2.2.2.2.2.2.2.2.2.2.2.2.2.1, r.2.2.2.2.2.2.2.2.2.2.2.2.2.2.2.2.1, r.2.2.2.2.2.2.2.2.2.2.2.2.2.2.2.2.2.1, r.2.2.2.2.2.2.2.2.2.2.2.2.2.2.2.2.2.2.1, r.2.2.2.2.2.2.2.2.2.2.2.2.2.2.2.2.2.2.2)
def r_lz (r : MR) (v : Int) : MR := (r.1, r.2.1, r.2.2.1, r.2.2.2.1, r.2.2.2.2.1, v, r.2.2.2.2.2.2.1, r.2.2.2.2.2.2.2.1, r.2.2.2.2.2.2.2.2.1, r.2.2.2.2.2.2.2.2.2.1, r.2.2.2.2.2.2.2.2.2.2.1, r.2.2.2.2.2.2.2.2.2.2.2.1, r.2.2.2.2.2.2.2.2.2.2.2.2.1, r.2.2.2.2.2.2.2.2.2.2.2.2.2.1, r.2.2.2.2.2.2.2.2.2.2.2.2.2.2.1, r.2.2.2.2.2.2.2.2.2.2.2.2.2.2.2.1, r.2.2.2.2.2.2.2.2.2.2.2.2.2.2.2.2.1, r.2.2.2.2.2.2.2.2.2.2.2.2.2.2.2.2.2.1, r.2.2.2.2.2.2.2.2.2.2.2.2.2.2.2.2.2.2.1, r.2.2.2.2.2.2.2.2.2.2.2.2.2.2.2.2.2.2.2)
def r_bz (r : MR) (v : Int) : MR := (r.1, r.2.1, r.2.2.1, r.2.2.2.1, r.2.2.2.2.1, r.2.2.2.2.2.1, v, r.2.2.2.2.2.2.2.1, r.2.2.2.2.2.2.2.2.1, r.2.2.2.2.2.2.2.2.2.1, r.2.2.2.2.2.2.2.2.2.2.1, r.2.2.2.2.2.2.2.2.2.2.2.1, r.2.2.2.2.2.2.2.2.2.2.2.2.1, r.2.2.2.2.2.2.2.2.2.2.2.2.2.1, r.2.2.2.2.2.2.2.2.2.2.2.2.2.2.1, r.2.2.2.2.2.2.2.2.2.2.2.2.2.2.2.1, r.2.2.2.2.2.2.2.2.2.2.2.2.2.2.2.2.1, r.2.2.2.2.2.2.2.2.2.2.2.2.2.2.2.2.2.1, r.2.2.2.2.2.2.2.2.2.2.2.2.2.2.2.2.2.2.1, r.2.2.2.2.2.2.2.2.2.2.2.2.2.2.2.2.2.2.2)
def r_jz (r : MR) (v : Int) : MR := (r.1, r.2.1, r.2.2.1, r.2.2.2.1, r.2.2.2.2.1, r.2.2.2.2.2.1, r.2.2.2.2.2.2.1, v, r.2.2.2.2.2.2.2.2.1, r.2.2.2.2.2.2.2.2.2.1, r.2.2.2.2.2.2.2.2.2.2.1, r.2.2.2.2.2.2.2.2.2.2.2.1, r.2.2.2.2.2.2.2.2.2.2.2.2.1, r.2.2.2.2.2.2.2.2.2.2.2.2.2.1, r.2.2.2.2.2.2.2.2.2.2.2.2.2.2.1, r.2.2.2.2.2.2.2.2.2.2.2.2.2.2.2.1, r.2.2.2.2.2.2.2.2.2.2.2.2.2.2.2.2.1, r.2.2.2.2.2.2.2.2.2.2.2.2.2.2.2.2.2.1, r.2.2.2.2.2.2.2.2.2.2.2.2.2.2.2.2.2.2.1, r.2.2.2.2.2.2.2.2.2.2.2.2.2.2.2.2.2.2.2)
def r_sd (r : MR) (v : Bool) : MR := (r.1, r.2.1, r.2.2.1, r.2.2.2.1, r.2.2.2.2.1, r.2.2.2.2.2.1, r.2.2.2.2.2.2.1, r.2.2.2.2.2.2.2.1, v, r.2.2.2.2.2.2.2.2.2.1, r.2.2.2.2.2.2.2.2.2.2.1, r.2.2.2.2.2.2.2.2.2.2.2.1, r.2.2.2.2.2.2.2.2.2.2.2.2.1, r.2.2.2.2.2.2.2.2.2.2.2.2.2.1, r.2.2.2.2.2.2.2.2.2.2.2.2.2.2.1, r.2.2.2.2.2.2.2.2.2.2.2.2.2.2.2.1, r.2.2.2.2.2.2.2.2.2.2.2.2.2.2.2.2.1, r.2.2.2.2.2.2.2.2.2.2.2.2.2.2.2.2.2.1, r.2.2.2.2.2.2.2.2.2.2.2.2.2.2.2.2.2.2.1, r.2.2.2.2.2.2.2.2.2.2.2.2.2.2.2.2.2.2.2)
def r_ol (r : MR) (v : Int) : MR := (r.1, r.2.1, r.2.2.1, r.2.2.2.1, r.2.2.2.2.1, r.2.2.2.2.2.1, r.2.2.2.2.2.2.1, r.2.2.2.2.2.2.2.1, r.2.2.2.2.2.2.2.2.1, v, r.2.2.2.2.2.2.2.2.2.2.1, r.2.2.2.2.2.2.2.2.2.2.2.1, r.2.2.2.2.2.2.2.2.2.2.2.2.1, r.2.2.2.2.2.2.2.2.2.2.2.2.2.1, r.2.2.2.2.2.2.2.2.2.2.2.2.2.2.1, r.2.2.2.2.2.2.2.2.2.2.2.2.2.2.2.1, r.2.2.2.2.2.2.2.2.2.2.2.2.2.2.2.2.1, r.2.2.2.2.2.2.2.2.2.2.2.2.2.2.2.2.2.1, r.2.2.2.2.2.2.2.2.2.2.2.2.2.2.2.2.2.2.1, r.2.2.2.2.2.2.2.2.2.2.2.2.2.2.2.2.2.2.2)
def r_bl (r : MR) (v : Int) : MR := (r.1, r.2.1, r.2.2.1, r.2.2.2.1, r.2.2.2.2.1, r.2.2.2.2.2.1, r.2.2.2.2.2.2.1, r.2.2.2.2.2.2.2.1, r.2.2.2.2.2.2.2.2.1, r.2.2.2.2.2.2.2.2.2.1, v, r.2.2.2.2.2.2.2.2.2.2.2.1, r.2.2.2.2.2.2.2.2.2.2.2.2.1, r.2.2.2.2.2.2.2.2.2.2.2.2.2.1, r.2.2.2.2.2.2.2.2.2.2.2.2.2.2.1, r.2.2.2.2.2.2.2.2.2.2.2.2.2.2.2.1, r.2.2.2.2.2.2.2.2.2.2.2.2.2.2.2.2.1, r.2.2.2.2.2.2.2.2.2.2.2.2.2.2.2.2.2.1, r.2.2.2.2.2.2.2.2.2.2.2.2.2.2.2.2.2.2.1, r.2.2.2.2.2.2.2.2.2.2.2.2.2.2.2.2.2.2.2)
def r_li (r : MR) (v : Int) : MR := (r.1, r.2.1, r.2.2.1, r.2.2.2.1, r.2.2.2.2.1, r.2.2.2.2.2.1, r.2.2.2.2.2.2.1, r.2.2.2.2.2.2.2.1, r.2.2.2.2.2.2.2.2.1, r.2.2.2.2.2.2.2.2.2.1, r.2.2.2.2.2.2.2.2.2.2.1, v, r.2.2.2.2.2.2.2.2.2.2.2.2.1, r.2.2.2.2.2.2.2.2.2.2.2.2.2.1, r.2.2.2.2.2.2.2.2.2.2.2.2.2.2.1, r.2.2.2.2.2.2.2.2.2.2.2.2.2.2.2.1, r.2.2.2.2.2.2.2.2.2.2.2.2.2.2.2.2.1, r.2.2.2.2.2.2.2.2.2.2.2.2.2.2.2.2.2.1, r.2.2.2.2.2.2.2.2.2.2.2.2.2.2.2.2.2.2.1, r.2.2.2.2.2.2.2.2.2.2.2.2.2.2.2.2.2.2.2)
def r_nx (r : MR) (v : Int) : MR := (r.1, r.2.1, r.2.2.1, r.2.2.2.1, r.2.2.2.2.1, r.2.2.2.2.2.1, r.2.2.2.2.2.2.1, r.2.2.2.2.2.2.2.1, r.2.2.2.2.2.2.2.2.1, r.2.2.2.2.2.2.2.2.2.1, r.2.2.2.2.2.2.2.2.2.2.1, r.2.2.2.2.2.2.2.2.2.2.2.1, v, r.2.2.2.2.2.2.2.2.2.2.2.2.2.1, r.2.2.2.2.2.2.2.2.2.2.2.2.2.2.1, r.2.2.2.2.2.2.2.2.2.2.2.2.2.2.2.1, r.2.2.2.2.2.2.2.2.2.2.2.2.2.2.2.2.1, r.2.2.2.2.2.2.2.2.2.2.2.2.2.2.2.2.2.1, r.2.2.2.2.2.2.2.2.2.2.2.2.2.2.2.2.2.2.1, r.2.2.2.2.2.2.2.2.2.2.2.2.2.2.2.2.2.2.2)
def r_bg (r : MR) (v : Int) : MR := (r.1, r.2.1, r.2.2.1, r.2.2.2.1, r.2.2.2.2.1, r.2.2.2.2.2.1, r.2.2.2.2.2.2.1, r.2.2.2.2.2.2.2.1, r.2.2.2.2.2.2.2.2.1, r.2.2.2.2.2.2.2.2.2.1, r.2.2.2.2.2.2.2.2.2.2.1, r.2.2.2.2.2.2.2.2.2.2.2.1, r.2.2.2.2.2.2.2.2.2.2.2.2.1, v, r.2.2.2.2.2.2.2.2.2.2.2.2.2.2.1, r.2.2.2.2.2.2.2.2.2.2.2.2.2.2.2.1, r.2.2.2.2.2.2.2.2.2.2.2.2.2.2.2.2.1, r.2.2.2.2.2.2.2.2.2.2.2.2.2.2.2.2.2.1, r.2.2.2.2.2.2.2.2.2.2.2.2.2.2.2.2.2.2.1, r.2.2.2.2.2.2.2.2.2.2.2.2.2.2.2.2.2.2.2)
def r_tk (r : MR) (v : Int) : MR := (r.1, r.2.1, r.2.2.1, r.2.2.2.1, r.2.2.2.2.1, r.2.2.2.2.2.1, r.2.2.2.2.2.2.1, r.2.2.2.2.2.2.2.1, r.2.2.2.2.2.2.2.2.1, r.2.2.2.2.2.2.2.2.2.1, r.2.2.2.2.2.2.2.2.2.2.1, r.2.2.2.2.2.2.2.2.2.2.2.1, r.2.2.2.2.2.2.2.2.2.2.2.2.1, r.2.2.2.2.2.2.2.2.2.2.2.2.2.1, v, r.2.2.2.2.2.2.2.2.2.2.2.2.2.2.2.1, r.2.2.2.2.2.2.2.2.2.2.2.2.2.2.2.2.1, r.2.2.2.2.2.2.2.2.2.2.2.2.2.2.2.2.2.1, r.2.2.2.2.2.2.2.2.2.2.2.2.2.2.2.2.2.2.1, r.2.2.2.2.2.2.2.2.2.2.2.2.2.2.2.2.2.2.2)
def r_er (r : MR) (v : Int) : MR := (r.1, r.2.1, r.2.2.1, r.2.2.2.1, r.2.2.2.2.1, r.2.2.2.2.2.1, r.2.2.2.2.2.2.1, r.2.2.2.2.2.2.2.1, r.2.2.2.2.2.2.2.2.1, r.2.2.2.2.2.2.2.2.2.1, r.2.2.2.2.2.2.2.2.2.2.1, r.2.2.2.2.2.2.2.2.2.2.2.1, r.2.2.2.2.2.2.2.2.2.2.2.2.1, r.2.2.2.2.2.2.2.2.2.2.2.2.2.1, r.2.2.2.2.2.2.2.2.2.2.2.2.2.2.1, v, r.2.2.2.2.2.2.2.2.2.2.2.2.2.2.2.2.1, r.2.2.2.2.2.2.2.2.2.2.2.2.2.2.2.2.2.1, r.2.2.2.2.2.2.2.2.2.2.2.2.2.2.2.2.2.2.1, r.2.2.2.2.2.2.2.2.2.2.2.2.2.2.2.2.2.2.2)
def r_ea (r : MR) (v : Int) : MR := (r.1, r.2.1, r.2.2.1, r.2.2.2.1, r.2.2.2.2.1, r.2.2.2.2.2.1, r.2.2.2.2.2.2.1, r.2.2.2.2.2.2.2.1, r.2.2.2.2.2.2.2.2.1, r.2.2.2.2.2.2.2.2.2.1, r.2.2.2.2.2.2.2.2.2.2.1, r.2.2.2.2.2.2.2.2.2.2.2.1, r.2.2.2.2.2.2.2.2.2.2.2.2.1, r.2.2.2.2.2.2.2.2.2.2.2.2.2.1, r.2.2.2.2.2.2.2.2.2.2.2.2.2.2.1, r.2.2.2.2.2.2.2.2.2.2.2.2.2.2.2.1, v, r.2.2.2.2.2.2.2.2.2.2.2.2.2.2.2.2.2.1, r.2.2.2.2.2.2.2.2.2.2.2.2.2.2.2.2.2.2.1, r.2.2.2.2.2.2.2.2.2.2.2.2.2.2.2.2.2.2.2)
def r_ep (r : MR) (v : Int) : MR := (r.1, r.2.1, r.2.2.1, r.2.2.2.1, r.2.2.2.2.1, r.2.2.2.2.2.1, r.2.2.2.2.2.2.1, r.2.2.2.2.2.2.2.1, r.2.2.2.2.2.2.2.2.1, r.2.2.2.2.2.2.2.2.2.1, r.2.2.2.2.2.2.2.2.2.2.1, r.2.2.2.2.2.2.2.2.2.2.2.1, r.2.2.2.2.2.2.2.2.2.2.2.2.1, r.2.2.2.2.2.2.2.2.2.2.2.2.2.1, r.2.2.2.2.2.2.2.2.2.2.2.2.2.2.1, r.2.2.2.2.2.2.2.2.2.2.2.2.2.2.2.1, r.2.2.2.2.2.2.2.2.2.2.2.2.2.2.2.2.1, v, r.2.2.2.2.2.2.2.2.2.2.2.2.2.2.2.2.2.2.1, r.2.2.2.2.2.2.2.2.2.2.2.2.2.2.2.2.2.2.2)
def r_nd (r : MR) (v : Int) : MR := (r.1, r.2.1, r.2.2.1, r.2.2.2.1, r.2.2.2.2.1, r.2.2.2.2.2.1, r.2.2.2.2.2.2.1, r.2.2.2.2.2.2.2.1, r.2.2.2.2.2.2.2.2.1, r.2.2.2.2.2.2.2.2.2.1, r.2.2.2.2.2.2.2.2.2.2.1, r.2.2.2.2.2.2.2.2.2.2.2.1, r.2.2.2.2.2.2.2.2.2.2.2.2.1, r.2.2.2.2.2.2.2.2.2.2.2.2.2.1, r.2.2.2.2.2.2.2.2.2.2.2.2.2.2.1, r.2.2.2.2.2.2.2.2.2.2.2.2.2.2.2.1, r.2.2.2.2.2.2.2.2.2.2.2.2.2.2.2.2.1, r.2.2.2.2.2.2.2.2.2.2.2.2.2.2.2.2.2.1, v, r.2.2.2.2.2.2.2.2.2.2.2.2.2.2.2.2.2.2.2)
def r_oc (r : MR) (v : Int) : MR := (r.1, r.2.1, r.2.2.1, r.2.2.2.1, r.2.2.2.2.1, r.2.2.2.2.2.1, r.2.2.2.2.2.2.1, r.2.2.2.2.2.2.2.1, r.2.2.2.2.2.2.2.2.1, r.2.2.2.2.2.2.2.2.2.1, r.2.2.2.2.2.2.2.2.2.2.1, r.2.2.2.2.2.2.2.2.2.2.2.1, r.2.2.2.2.2.2.2.2.2.2.2.2.1, r.2.2.2.2.2.2.2.2.2.2.2.2.2.1, r.2.2.2.2.2.2.2.2.2.2.2.2.2.2.1, r.2.2.2.2.2.2.2.2.2.2.2.2.2.2.2.1, r.2.2.2.2.2.2.2.2.2.2.2.2.2.2.2.2.1, r.2.2.2.2.2.2.2.2.2.2.2.2.2.2.2.2.2.1, r.2.2.2.2.2.2.2.2.2.2.2.2.2.2.2.2.2.2.1, v)
def MO (G : xG) (h : xH) (m : Nat) (a : MA) (r : MR) : Prop := m ∈ h.1 ∧ h.2 m = .inr (8, mfl a r)
def AR (G : xG) (h : xH) (q n : Nat) (g : Nat → Int32) : Prop := q ∈ h.1 ∧ h.2 q = .inl (G.2.1 0, n, .inl g)
/-- a sheet in a row, from b on -/
def SWr (g : Nat → Int32) (b : Nat) (s : AS) : Prop := g b = iI s.2.2.1 ∧ g (b + 1) = iI (b2 s.2.2.2.2.1) ∧ g (b + 2) = iI (b2 s.2.2.2.2.2.1) ∧ g (b + 3) = iI (b2 s.2.2.2.2.2.2) ∧ g (b + 4) = s.2.2.2.1 ∧ g (b + 5) = iI s.2.1 ∧ g (b + 6) = iI (s.1.length : Int) ∧ s.1.length ≤ 200 ∧ ∀ k, k < s.1.length → g (b + 7 + k) = iI (s.1.getD k 0)
/-- a bench in a row, from o on -/
def RWc (g : Nat → Int32) (o : Nat) (B : AB) : Prop := (g (o + 0) = iI B.1.1 ∧ g (o + 1) = iI B.1.2.1 ∧ g (o + 2) = iI B.1.2.2.1 ∧ g (o + 3) = iI (B.2.length : Int) ∧ g (o + 4) = iI B.1.2.2.2.1 ∧ g (o + 5) = iI B.1.2.2.2.2.1 ∧ g (o + 6) = iI B.1.2.2.2.2.2) ∧ B.2.length ≤ 6 ∧ ∀ i, i < B.2.length → SWr g (o + 7 + 207 * i) (B.2.getD i dS)
theorem MO.fr {G : xG} {h h' : xH} {m : Nat} {a : MA} {r : MR} {fp : List Nat} (hM : MO G h m a r) (hF : FRp fp h h') (h1 : m ∉ fp) : MO G h' m a r := ⟨by rw [hF.1]; exact hM.1, (hF.2 m h1).trans hM.2⟩
theorem AR.fr {G : xG} {h h' : xH} {q n : Nat} {g : Nat → Int32} {fp : List Nat} (hM : AR G h q n g) (hF : FRp fp h h') (h1 : q ∉ fp) : AR G h' q n g := ⟨by rw [hF.1]; exact hM.1, (hF.2 q h1).trans hM.2⟩
theorem SWr.len {g : Nat → Int32} {b : Nat} {s : AS} (h : SWr g b s) : s.1.length ≤ 200 := h.2.2.2.2.2.2.2.1
theorem isB_iff {x : Int} : isB x = decide (x < 0) := rfl
def inR (v lo hi : Int) : Bool := decide (lo ≤ v) && decide (v ≤ hi)
def alk (x y : Int) : Bool := decide (0 < x) == decide (0 < y)
theorem alk_isB {x y : Int} (hx : x ≠ 0) (hy : y ≠ 0) : alk x y = (isB x == isB y) := by
  unfold alk isB
  by_cases a : x < 0 <;> by_cases b : y < 0 <;> simp [a, b] <;> omega
theorem sz_m {x : Int} : sz x = if x < 0 then -x else x := rfl
set_option maxRecDepth 20000 in
set_option maxHeartbeats 1000000 in
theorem c_X12_at {G : xG} {h : xH} {z : Int} : CC G MX12_at [.int (iI z)] h (qI (7 + 207 * z) h) := by
  show RR G MX12_at 0 [(0, .int (iI z))] [] h (xm_R MX12_at).cells (xm_R MX12_at).slots (qI (7 + 207 * z) h)
  refine i_bipush (7) (by decide) dX12_at_0 ?_
  refine i_sipush (207) (by decide) dX12_at_2 ?_
  refine r_iload_n dX12_at_5 0 rfl ?_
  refine i_mul dX12_at_6 ?_
  refine i_add dX12_at_7 ?_
  refine r_ireturn rfl rfl dX12_at_8 ?_
  exact ⟨rfl, rfl⟩
set_option maxRecDepth 20000 in
set_option maxHeartbeats 1000000 in
theorem c_X12_inRange {G : xG} {h : xH} {v lo hi : Int} (h1 : in32 v) (h2 : in32 lo) (h3 : in32 hi) : CC G MX12_inRange [.int (iI v), .int (iI lo), .int (iI hi)] h (qI (b2 (inR v lo hi)) h) := by
  show RR G MX12_inRange 0 [(0, .int (iI v)), (1, .int (iI lo)), (2, .int (iI hi))] [] h (xm_R MX12_inRange).cells (xm_R MX12_inRange).slots (qI (b2 (inR v lo hi)) h)
  refine r_iload_n dX12_inRange_0 0 rfl ?_
  refine r_iload_n dX12_inRange_1 1 rfl ?_
  refine i_icmplt dX12_inRange_2 (tgt := 14) (by decide) (by first | assumption | (unfold in32; omega)) (by first | assumption | (unfold in32; omega)) (fun c2 => ?_) (fun c2 => ?_)
  · refine i_const (0) dX12_inRange_14 ?_
    refine r_ireturn rfl (b2_nar false) dX12_inRange_15 ?_
    have e : inR v lo hi = false := by unfold inR; simp; omega
    rw [e]
    exact ⟨rfl, rfl⟩
  · refine r_iload_n dX12_inRange_5 0 rfl ?_
    refine r_iload_n dX12_inRange_6 2 rfl ?_
    refine i_icmpgt dX12_inRange_7 (tgt := 14) (by decide) (by first | assumption | (unfold in32; omega)) (by first | assumption | (unfold in32; omega)) (fun c7 => ?_) (fun c7 => ?_)
    · refine i_const (0) dX12_inRange_14 ?_
      refine r_ireturn rfl (b2_nar false) dX12_inRange_15 ?_
      have e : inR v lo hi = false := by unfold inR; simp; omega
      rw [e]
      exact ⟨rfl, rfl⟩
    · refine i_const (1) dX12_inRange_10 ?_
      refine r_goto dX12_inRange_11 (tgt := 15) (by decide) ?_
      refine r_ireturn rfl (b2_nar true) dX12_inRange_15 ?_
      have e : inR v lo hi = true := by unfold inR; rw [decide_eq_true (by omega), decide_eq_true (by omega)]; rfl
      rw [e]
      exact ⟨rfl, rfl⟩
set_option maxRecDepth 20000 in
set_option maxHeartbeats 1000000 in
theorem c_X12_sizeOf {G : xG} {h : xH} {v : Int} (h1 : in32 v) : CC G MX12_sizeOf [.int (iI v)] h (qI (sz v) h) := by
  show RR G MX12_sizeOf 0 [(0, .int (iI v))] [] h (xm_R MX12_sizeOf).cells (xm_R MX12_sizeOf).slots (qI (sz v) h)
  refine r_iload_n dX12_sizeOf_0 0 rfl ?_
  refine i_ifge dX12_sizeOf_1 (tgt := 9) (by decide) (by first | assumption | (unfold in32; omega)) (fun c1 => ?_) (fun c1 => ?_)
  · refine r_iload_n dX12_sizeOf_9 0 rfl ?_
    refine r_ireturn rfl rfl dX12_sizeOf_10 ?_
    have e : sz v = v := by unfold sz; rw [if_neg (by omega)]
    rw [e]
    exact ⟨rfl, rfl⟩
  · refine r_iload_n dX12_sizeOf_4 0 rfl ?_
    refine i_neg dX12_sizeOf_5 ?_
    refine r_goto dX12_sizeOf_6 (tgt := 10) (by decide) ?_
    refine r_ireturn rfl rfl dX12_sizeOf_10 ?_
    have e : sz v = -v := by unfold sz; rw [if_pos c1]
    rw [e]
    exact ⟨rfl, rfl⟩
set_option maxRecDepth 20000 in
set_option maxHeartbeats 1000000 in
theorem c_X12_least {G : xG} {h : xH} {v w : Int} (h1 : in32 v) (h2 : in32 w) : CC G MX12_least [.int (iI v), .int (iI w)] h (qI (min v w) h) := by
  show RR G MX12_least 0 [(0, .int (iI v)), (1, .int (iI w))] [] h (xm_R MX12_least).cells (xm_R MX12_least).slots (qI (min v w) h)
  refine r_iload_n dX12_least_0 0 rfl ?_
  refine r_iload_n dX12_least_1 1 rfl ?_
  refine i_icmpge dX12_least_2 (tgt := 9) (by decide) (by first | assumption | (unfold in32; omega)) (by first | assumption | (unfold in32; omega)) (fun c2 => ?_) (fun c2 => ?_)
  · refine r_iload_n dX12_least_9 1 rfl ?_
    refine r_ireturn rfl rfl dX12_least_10 ?_
    rw [show min v w = w by omega]
    exact ⟨rfl, rfl⟩
  · refine r_iload_n dX12_least_5 0 rfl ?_
    refine r_goto dX12_least_6 (tgt := 10) (by decide) ?_
    refine r_ireturn rfl rfl dX12_least_10 ?_
    rw [show min v w = v by omega]
    exact ⟨rfl, rfl⟩
set_option maxRecDepth 20000 in
set_option maxHeartbeats 1000000 in
theorem c_X12_most {G : xG} {h : xH} {v w : Int} (h1 : in32 v) (h2 : in32 w) : CC G MX12_most [.int (iI v), .int (iI w)] h (qI (max v w) h) := by
  show RR G MX12_most 0 [(0, .int (iI v)), (1, .int (iI w))] [] h (xm_R MX12_most).cells (xm_R MX12_most).slots (qI (max v w) h)
  refine r_iload_n dX12_most_0 0 rfl ?_
  refine r_iload_n dX12_most_1 1 rfl ?_
  refine i_icmple dX12_most_2 (tgt := 9) (by decide) (by first | assumption | (unfold in32; omega)) (by first | assumption | (unfold in32; omega)) (fun c2 => ?_) (fun c2 => ?_)
  · refine r_iload_n dX12_most_9 1 rfl ?_
    refine r_ireturn rfl rfl dX12_most_10 ?_
    rw [show max v w = w by omega]
    exact ⟨rfl, rfl⟩
  · refine r_iload_n dX12_most_5 0 rfl ?_
    refine r_goto dX12_most_6 (tgt := 10) (by decide) ?_
    refine r_ireturn rfl rfl dX12_most_10 ?_
    rw [show max v w = v by omega]
    exact ⟨rfl, rfl⟩
set_option maxRecDepth 20000 in
set_option maxHeartbeats 1000000 in
theorem c_X12_areAlike {G : xG} {h : xH} {v w : Int} (h1 : in32 v) (h2 : in32 w) : CC G MX12_areAlike [.int (iI v), .int (iI w)] h (qI (b2 (alk v w)) h) := by
  show RR G MX12_areAlike 0 [(0, .int (iI v)), (1, .int (iI w))] [] h (xm_R MX12_areAlike).cells (xm_R MX12_areAlike).slots (qI (b2 (alk v w)) h)
  refine r_iload_n dX12_areAlike_0 0 rfl ?_
  refine i_ifle dX12_areAlike_1 (tgt := 8) (by decide) (by first | assumption | (unfold in32; omega)) (fun c1 => ?_) (fun c1 => ?_)
  · refine i_const (0) dX12_areAlike_8 ?_
    refine r_iload_n dX12_areAlike_9 1 rfl ?_
    refine i_ifle dX12_areAlike_10 (tgt := 17) (by decide) (by first | assumption | (unfold in32; omega)) (fun c10 => ?_) (fun c10 => ?_)
    · refine i_const (0) dX12_areAlike_17 ?_
      refine i_icmpne dX12_areAlike_18 (tgt := 25) (by decide) ⟨by decide, by decide⟩ ⟨by decide, by decide⟩ (fun c => absurd c (by decide)) (fun _ => ?_)
      refine i_const (1) dX12_areAlike_21 ?_
      refine r_goto dX12_areAlike_22 (tgt := 26) (by decide) ?_
      refine r_ireturn rfl (b2_nar true) dX12_areAlike_26 ?_
      have e : alk v w = true := by unfold alk; by_cases a : 0 < v <;> by_cases b : 0 < w <;> simp [a, b] <;> omega
      rw [e]
      exact ⟨rfl, rfl⟩
    · refine i_const (1) dX12_areAlike_13 ?_
      refine r_goto dX12_areAlike_14 (tgt := 18) (by decide) ?_
      refine i_icmpne dX12_areAlike_18 (tgt := 25) (by decide) ⟨by decide, by decide⟩ ⟨by decide, by decide⟩ (fun _ => ?_) (fun c => absurd c (by decide))
      refine i_const (0) dX12_areAlike_25 ?_
      refine r_ireturn rfl (b2_nar false) dX12_areAlike_26 ?_
      have e : alk v w = false := by unfold alk; by_cases a : 0 < v <;> by_cases b : 0 < w <;> simp [a, b] <;> omega
      rw [e]
      exact ⟨rfl, rfl⟩
  · refine i_const (1) dX12_areAlike_4 ?_
    refine r_goto dX12_areAlike_5 (tgt := 9) (by decide) ?_
    refine r_iload_n dX12_areAlike_9 1 rfl ?_
    refine i_ifle dX12_areAlike_10 (tgt := 17) (by decide) (by first | assumption | (unfold in32; omega)) (fun c10 => ?_) (fun c10 => ?_)
    · refine i_const (0) dX12_areAlike_17 ?_
      refine i_icmpne dX12_areAlike_18 (tgt := 25) (by decide) ⟨by decide, by decide⟩ ⟨by decide, by decide⟩ (fun _ => ?_) (fun c => absurd c (by decide))
      refine i_const (0) dX12_areAlike_25 ?_
      refine r_ireturn rfl (b2_nar false) dX12_areAlike_26 ?_
      have e : alk v w = false := by unfold alk; by_cases a : 0 < v <;> by_cases b : 0 < w <;> simp [a, b] <;> omega
      rw [e]
      exact ⟨rfl, rfl⟩
    · refine i_const (1) dX12_areAlike_13 ?_
      refine r_goto dX12_areAlike_14 (tgt := 18) (by decide) ?_
      refine i_icmpne dX12_areAlike_18 (tgt := 25) (by decide) ⟨by decide, by decide⟩ ⟨by decide, by decide⟩ (fun c => absurd c (by decide)) (fun _ => ?_)
      refine i_const (1) dX12_areAlike_21 ?_
      refine r_goto dX12_areAlike_22 (tgt := 26) (by decide) ?_
      refine r_ireturn rfl (b2_nar true) dX12_areAlike_26 ?_
      have e : alk v w = true := by unfold alk; by_cases a : 0 < v <;> by_cases b : 0 < w <;> simp [a, b] <;> omega
      rw [e]
      exact ⟨rfl, rfl⟩
set_option maxRecDepth 20000 in
set_option maxHeartbeats 1000000 in
theorem c_X12_foldedLayers {G : xG} {h : xH} {n q : Int} {d : Bool} : CC G MX12_foldedLayers [.int (iI n), .int (iI q), .int (iI (b2 d))] h (qI (folded n q d) h) := by
  show RR G MX12_foldedLayers 0 [(0, .int (iI n)), (1, .int (iI q)), (2, .int (iI (b2 d)))] [] h (xm_R MX12_foldedLayers).cells (xm_R MX12_foldedLayers).slots (qI (folded n q d) h)
  refine r_iload_n dX12_foldedLayers_0 1 rfl ?_
  refine r_iload_n dX12_foldedLayers_1 0 rfl ?_
  refine i_mul dX12_foldedLayers_2 ?_
  refine r_iload_n dX12_foldedLayers_3 2 rfl ?_
  refine i_ifeqb dX12_foldedLayers_4 (tgt := 11) (by decide) (fun c4 => ?_) (fun c4 => ?_)
  · refine r_iload_n dX12_foldedLayers_11 1 rfl ?_
    refine i_const (1) dX12_foldedLayers_12 ?_
    refine i_sub dX12_foldedLayers_13 ?_
    refine i_sub dX12_foldedLayers_14 ?_
    refine r_ireturn rfl rfl dX12_foldedLayers_15 ?_
    have e : folded n q d = (q * n) - (q - 1) := by unfold folded; rw [c4]; simp [Int.mul_comm]
    rw [e]
    exact ⟨rfl, rfl⟩
  · refine i_const (0) dX12_foldedLayers_7 ?_
    refine r_goto dX12_foldedLayers_8 (tgt := 14) (by decide) ?_
    refine i_sub dX12_foldedLayers_14 ?_
    refine r_ireturn rfl rfl dX12_foldedLayers_15 ?_
    have e : folded n q d = (q * n) - 0 := by unfold folded; rw [c4]; simp [Int.mul_comm]
    rw [e]
    exact ⟨rfl, rfl⟩
set_option maxRecDepth 20000 in
set_option maxHeartbeats 1000000 in
theorem c_X12_areParts {G : xG} {h : xH} {q : Int} (h1 : in32 q) : CC G MX12_areParts [.int (iI q)] h (qI (b2 (isFac q)) h) := by
  show RR G MX12_areParts 0 [(0, .int (iI q))] [] h (xm_R MX12_areParts).cells (xm_R MX12_areParts).slots (qI (b2 (isFac q)) h)
  refine r_iload_n dX12_areParts_0 0 rfl ?_
  refine i_const (2) dX12_areParts_1 ?_
  refine i_const (4) dX12_areParts_2 ?_
  refine p_callS (As := [.int (iI q), .int (iI 2), .int (iI 4)]) (rest := []) (w := (some (.int (iI (b2 (inR q 2 4)))))) (st' := [.int (iI (b2 (inR q 2 4)))]) kv_X12_areParts_107 dX12_areParts_3 rfl rfl (Nat.le_of_ble_eq_true rfl) (Nat.le_of_ble_eq_true rfl) rfl rfl (c_X12_inRange h1 ⟨by decide, by decide⟩ ⟨by decide, by decide⟩) rfl (fun h9 e9 => ?_)
  rw [show h9 = h from e9]
  refine r_ireturn rfl (b2_nar _) dX12_areParts_6 ?_
  rw [show isFac q = inR q 2 4 by simp [isFac, inR]]
  exact ⟨rfl, rfl⟩
set_option maxRecDepth 20000 in
set_option maxHeartbeats 1000000 in
theorem c_X12_cooled {G : xG} {h : xH} {w : Int} (h1 : 0 ≤ w ∧ w ≤ 100) : CC G MX12_cooled [.int (iI w)] h (qI (cooled w) h) := by
  show RR G MX12_cooled 0 [(0, .int (iI w))] [] h (xm_R MX12_cooled).cells (xm_R MX12_cooled).slots (qI (cooled w) h)
  refine r_iload_n dX12_cooled_0 0 rfl ?_
  refine i_const (4) dX12_cooled_1 ?_
  refine i_icmple dX12_cooled_2 (tgt := 15) (by decide) (by first | assumption | (unfold in32; omega)) ⟨by decide, by decide⟩ (fun c2 => ?_) (fun c2 => ?_)
  · refine r_iload_n dX12_cooled_15 0 rfl ?_
    refine r_ireturn rfl rfl dX12_cooled_16 ?_
    have e : cooled w = w := by unfold cooled; split <;> omega
    rw [e]
    exact ⟨rfl, rfl⟩
  · refine i_const (4) dX12_cooled_5 ?_
    refine r_iload_n dX12_cooled_6 0 rfl ?_
    refine i_const (4) dX12_cooled_7 ?_
    refine i_sub dX12_cooled_8 ?_
    refine p_callS (As := [.int (iI 4), .int (iI (w - 4))]) (rest := []) (w := (some (.int (iI (max 4 (w - 4)))))) (st' := [.int (iI (max 4 (w - 4)))]) kv_X12_cooled_179 dX12_cooled_9 rfl rfl (Nat.le_of_ble_eq_true rfl) (Nat.le_of_ble_eq_true rfl) rfl rfl (c_X12_most ⟨by decide, by decide⟩ (by unfold in32; omega)) rfl (fun h9 e9 => ?_)
    rw [show h9 = h from e9]
    refine r_goto dX12_cooled_12 (tgt := 16) (by decide) ?_
    refine r_ireturn rfl rfl dX12_cooled_16 ?_
    have e : cooled w = max 4 (w - 4) := by unfold cooled; split <;> omega
    rw [e]
    exact ⟨rfl, rfl⟩
set_option maxRecDepth 20000 in
set_option maxHeartbeats 1000000 in
theorem c_X12_of {G : xG} {h : xH} {m : Nat} {a : MA} {r : MR} (hM : MO G h m a r) {g : Nat → Int32} (hR : AR G h r.1 1456 g) {i w : Nat} (hi : i ≤ 6) (hw : w < 207) {v : Int32} (hx : g (7 + 207 * i + w) = v) : CC G MX12_of [.ref m, .int (iI ((i : Int))), .int (iI ((w : Int)))] h (fun o h' => o = .inl (some (.int (v))) ∧ h' = h) := by
  obtain ⟨nw, dr, kp, sv, hy, ou, bu, od, ow⟩ := a
  obtain ⟨rr, un, th, lc, re, lz, bz, jz, sd, ol, bl, li, nx, bg, tk, er, ea, ep, nd, oc⟩ := r
  have hM0 := hM
  obtain ⟨mm, fm⟩ := hM
  have fm : h.2 m = .inr (8, [.ref nw, .ref dr, .ref kp, .ref sv, .ref hy, .ref rr, .int (iI un), .int (iI th), .int (iI lc), .int (iI re), .int (iI lz), .int (iI bz), .int (iI jz), .int (iI (b2 sd)), .ref ou, .int (iI ol), .ref bu, .int (iI bl), .int (iI li), .int (iI nx), .int (iI bg), .int (iI tk), .int (iI er), .int (iI ea), .int (iI ep), .int (iI nd), .ref od, .ref ow, .int (iI oc)]) := fm
  have hR0 := hR
  obtain ⟨mR, fR⟩ := hR
  have fR : h.2 rr = .inl (G.2.1 0, 1456, .inl g) := fR
  have nmr : m ≠ rr := ne_oi fm fR
  show RR G MX12_of 0 [(0, .ref m), (1, .int (iI ((i : Int)))), (2, .int (iI ((w : Int))))] [] h (xm_R MX12_of).cells (xm_R MX12_of).slots (fun o h' => o = .inl (some (.int (v))) ∧ h' = h)
  refine r_aload_n dX12_of_0 0 rfl ?_
  refine r_get cl_X12 5 (by decide) kf_X12_25 dX12_of_1 mm fm rfl ?_
  refine r_iload_n dX12_of_4 1 rfl ?_
  refine p_callS (As := [.int (iI ((i : Int)))]) (rest := [.ref rr]) (w := (some (.int (iI (7 + 207 * (i : Int)))))) (st' := [.int (iI (7 + 207 * (i : Int))), .ref rr]) kv_X12_of_86 dX12_of_5 rfl rfl (Nat.le_of_ble_eq_true rfl) (Nat.le_of_ble_eq_true rfl) rfl rfl (c_X12_at) rfl (fun h9 e9 => ?_)
  rw [show h9 = h from e9]
  refine r_iload_n dX12_of_8 2 rfl ?_
  refine i_add dX12_of_9 ?_
  refine i_iald (7 + 207 * i + w) (by omega) dX12_of_10 mR fR (by omega) (by decide) hx ?_
  refine r_ireturn rfl rfl dX12_of_11 ?_
  exact ⟨rfl, rfl⟩
set_option maxRecDepth 20000 in
set_option maxHeartbeats 1000000 in
theorem c_X12_layer {G : xG} {h : xH} {m : Nat} {a : MA} {r : MR} (hM : MO G h m a r) {g : Nat → Int32} (hR : AR G h r.1 1456 g) {i k : Nat} (hi : i ≤ 6) (hw : k < 200) {v : Int32} (hx : g (7 + 207 * i + 7 + k) = v) : CC G MX12_layer [.ref m, .int (iI ((i : Int))), .int (iI ((k : Int)))] h (fun o h' => o = .inl (some (.int (v))) ∧ h' = h) := by
  obtain ⟨nw, dr, kp, sv, hy, ou, bu, od, ow⟩ := a
  obtain ⟨rr, un, th, lc, re, lz, bz, jz, sd, ol, bl, li, nx, bg, tk, er, ea, ep, nd, oc⟩ := r
  have hM0 := hM
  obtain ⟨mm, fm⟩ := hM
  have fm : h.2 m = .inr (8, [.ref nw, .ref dr, .ref kp, .ref sv, .ref hy, .ref rr, .int (iI un), .int (iI th), .int (iI lc), .int (iI re), .int (iI lz), .int (iI bz), .int (iI jz), .int (iI (b2 sd)), .ref ou, .int (iI ol), .ref bu, .int (iI bl), .int (iI li), .int (iI nx), .int (iI bg), .int (iI tk), .int (iI er), .int (iI ea), .int (iI ep), .int (iI nd), .ref od, .ref ow, .int (iI oc)]) := fm
  have hR0 := hR
  obtain ⟨mR, fR⟩ := hR
  have fR : h.2 rr = .inl (G.2.1 0, 1456, .inl g) := fR
  have nmr : m ≠ rr := ne_oi fm fR
  show RR G MX12_layer 0 [(0, .ref m), (1, .int (iI ((i : Int)))), (2, .int (iI ((k : Int))))] [] h (xm_R MX12_layer).cells (xm_R MX12_layer).slots (fun o h' => o = .inl (some (.int (v))) ∧ h' = h)
  refine r_aload_n dX12_layer_0 0 rfl ?_
  refine r_get cl_X12 5 (by decide) kf_X12_25 dX12_layer_1 mm fm rfl ?_
  refine r_iload_n dX12_layer_4 1 rfl ?_
  refine p_callS (As := [.int (iI ((i : Int)))]) (rest := [.ref rr]) (w := (some (.int (iI (7 + 207 * (i : Int)))))) (st' := [.int (iI (7 + 207 * (i : Int))), .ref rr]) kv_X12_layer_86 dX12_layer_5 rfl rfl (Nat.le_of_ble_eq_true rfl) (Nat.le_of_ble_eq_true rfl) rfl rfl (c_X12_at) rfl (fun h9 e9 => ?_)
  rw [show h9 = h from e9]
  refine i_bipush (7) (by decide) dX12_layer_8 ?_
  refine i_add dX12_layer_10 ?_
  refine r_iload_n dX12_layer_11 2 rfl ?_
  refine i_add dX12_layer_12 ?_
  refine i_iald (7 + 207 * i + 7 + k) (by omega) dX12_layer_13 mR fR (by omega) (by decide) hx ?_
  refine r_ireturn rfl rfl dX12_layer_14 ?_
  exact ⟨rfl, rfl⟩
set_option maxRecDepth 20000 in
set_option maxHeartbeats 1000000 in
theorem c_X12_lay {G : xG} {h : xH} {m : Nat} {a : MA} {r : MR} (hM : MO G h m a r) {g : Nat → Int32} (hR : AR G h r.1 1456 g) {i w : Nat} (hi : i ≤ 6) (hw : w < 207) {v : Int32} : CC G MX12_lay [.ref m, .int (iI ((i : Int))), .int (iI ((w : Int))), .int v] h (fun o h' => o = .inl none ∧ AR G h' r.1 1456 (upd g (7 + 207 * i + w) v) ∧ FRp [r.1] h h') := by
  obtain ⟨nw, dr, kp, sv, hy, ou, bu, od, ow⟩ := a
  obtain ⟨rr, un, th, lc, re, lz, bz, jz, sd, ol, bl, li, nx, bg, tk, er, ea, ep, nd, oc⟩ := r
  have hM0 := hM
  obtain ⟨mm, fm⟩ := hM
  have fm : h.2 m = .inr (8, [.ref nw, .ref dr, .ref kp, .ref sv, .ref hy, .ref rr, .int (iI un), .int (iI th), .int (iI lc), .int (iI re), .int (iI lz), .int (iI bz), .int (iI jz), .int (iI (b2 sd)), .ref ou, .int (iI ol), .ref bu, .int (iI bl), .int (iI li), .int (iI nx), .int (iI bg), .int (iI tk), .int (iI er), .int (iI ea), .int (iI ep), .int (iI nd), .ref od, .ref ow, .int (iI oc)]) := fm
  have hR0 := hR
  obtain ⟨mR, fR⟩ := hR
  have fR : h.2 rr = .inl (G.2.1 0, 1456, .inl g) := fR
  have nmr : m ≠ rr := ne_oi fm fR
  show RR G MX12_lay 0 [(0, .ref m), (1, .int (iI ((i : Int)))), (2, .int (iI ((w : Int)))), (3, .int v)] [] h (xm_R MX12_lay).cells (xm_R MX12_lay).slots (fun o h' => o = .inl none ∧ AR G h' rr 1456 (upd g (7 + 207 * i + w) v) ∧ FRp [rr] h h')
  refine r_aload_n dX12_lay_0 0 rfl ?_
  refine r_get cl_X12 5 (by decide) kf_X12_25 dX12_lay_1 mm fm rfl ?_
  refine r_iload_n dX12_lay_4 1 rfl ?_
  refine p_callS (As := [.int (iI ((i : Int)))]) (rest := [.ref rr]) (w := (some (.int (iI (7 + 207 * (i : Int)))))) (st' := [.int (iI (7 + 207 * (i : Int))), .ref rr]) kv_X12_lay_86 dX12_lay_5 rfl rfl (Nat.le_of_ble_eq_true rfl) (Nat.le_of_ble_eq_true rfl) rfl rfl (c_X12_at) rfl (fun h9 e9 => ?_)
  rw [show h9 = h from e9]
  refine r_iload_n dX12_lay_8 2 rfl ?_
  refine i_add dX12_lay_9 ?_
  refine r_iload_n dX12_lay_10 3 rfl ?_
  refine i_iast (7 + 207 * i + w) (by omega) dX12_lay_11 mR fR (by omega) (by decide) (fun h1 e0_1 e1_1 e2_1 => ?_)
  have mm_1 : m ∈ h1.1 := by rw [e0_1]; exact mm
  have fm_1 := (e2_1 _ nmr).trans fm
  have mrr_1 : rr ∈ h1.1 := by rw [e0_1]; exact mR
  refine r_return rfl dX12_lay_12 ?_
  exact ⟨rfl, ⟨mrr_1, e1_1⟩, FRp.w (by simp) e0_1 e2_1⟩
set_option maxRecDepth 20000 in
set_option maxHeartbeats 1000000 in
theorem c_X12_is {G : xG} {h : xH} {m : Nat} {a : MA} {r : MR} (hM : MO G h m a r) {g : Nat → Int32} (hR : AR G h r.1 1456 g) {i w : Nat} (hi : i ≤ 6) (hw : w < 207) {b : Bool} (hx : g (7 + 207 * i + w) = iI (b2 b)) : CC G MX12_is [.ref m, .int (iI ((i : Int))), .int (iI ((w : Int)))] h (qI (b2 b) h) := by
  obtain ⟨nw, dr, kp, sv, hy, ou, bu, od, ow⟩ := a
  obtain ⟨rr, un, th, lc, re, lz, bz, jz, sd, ol, bl, li, nx, bg, tk, er, ea, ep, nd, oc⟩ := r
  have hM0 := hM
  obtain ⟨mm, fm⟩ := hM
  have fm : h.2 m = .inr (8, [.ref nw, .ref dr, .ref kp, .ref sv, .ref hy, .ref rr, .int (iI un), .int (iI th), .int (iI lc), .int (iI re), .int (iI lz), .int (iI bz), .int (iI jz), .int (iI (b2 sd)), .ref ou, .int (iI ol), .ref bu, .int (iI bl), .int (iI li), .int (iI nx), .int (iI bg), .int (iI tk), .int (iI er), .int (iI ea), .int (iI ep), .int (iI nd), .ref od, .ref ow, .int (iI oc)]) := fm
  have hR0 := hR
  obtain ⟨mR, fR⟩ := hR
  have fR : h.2 rr = .inl (G.2.1 0, 1456, .inl g) := fR
  have nmr : m ≠ rr := ne_oi fm fR
  show RR G MX12_is 0 [(0, .ref m), (1, .int (iI ((i : Int)))), (2, .int (iI ((w : Int))))] [] h (xm_R MX12_is).cells (xm_R MX12_is).slots (qI (b2 b) h)
  refine r_aload_n dX12_is_0 0 rfl ?_
  refine r_iload_n dX12_is_1 1 rfl ?_
  refine r_iload_n dX12_is_2 2 rfl ?_
  refine p_callV (As := [.int (iI ((i : Int))), .int (iI ((w : Int)))]) (b := m) (rest := []) (w := (some (.int (iI (b2 b))))) (st' := [.int (iI (b2 b))]) kv_X12_is_93 dX12_is_3 rfl rfl (Nat.le_of_ble_eq_true rfl) (Nat.le_of_ble_eq_true rfl) (x_rv mm fm rfl) rfl rfl (c_X12_of hM0 hR0 (i := i) (w := w) hi hw hx) rfl (fun h9 e9 => ?_)
  rw [show h9 = h from e9]
  refine i_const (1) dX12_is_6 ?_
  refine i_icmpne dX12_is_7 (tgt := 14) (by decide) (in32_b2 _) ⟨by decide, by decide⟩ (fun c7 => ?_) (fun c7 => ?_)
  · refine i_const (0) dX12_is_14 ?_
    refine r_ireturn rfl (b2_nar false) dX12_is_15 ?_
    have e : b = false := by revert c7; cases b <;> decide
    rw [e]
    exact ⟨rfl, rfl⟩
  · refine i_const (1) dX12_is_10 ?_
    refine r_goto dX12_is_11 (tgt := 15) (by decide) ?_
    refine r_ireturn rfl (b2_nar true) dX12_is_15 ?_
    have e : b = true := by revert c7; cases b <;> decide
    rw [e]
    exact ⟨rfl, rfl⟩
set_option maxRecDepth 20000 in
set_option maxHeartbeats 1000000 in
theorem c_X12_isSheet {G : xG} {h : xH} {m : Nat} {a : MA} {r : MR} (hM : MO G h m a r) {g : Nat → Int32} (hR : AR G h r.1 1456 g) {n : Nat} (hn : n ≤ 6) (hc : g 3 = iI (n : Int)) {z : Int} (hz : in32 z) : CC G MX12_isSheet [.ref m, .int (iI z)] h (qI (b2 (inR z 0 ((n : Int) - 1))) h) := by
  obtain ⟨nw, dr, kp, sv, hy, ou, bu, od, ow⟩ := a
  obtain ⟨rr, un, th, lc, re, lz, bz, jz, sd, ol, bl, li, nx, bg, tk, er, ea, ep, nd, oc⟩ := r
  have hM0 := hM
  obtain ⟨mm, fm⟩ := hM
  have fm : h.2 m = .inr (8, [.ref nw, .ref dr, .ref kp, .ref sv, .ref hy, .ref rr, .int (iI un), .int (iI th), .int (iI lc), .int (iI re), .int (iI lz), .int (iI bz), .int (iI jz), .int (iI (b2 sd)), .ref ou, .int (iI ol), .ref bu, .int (iI bl), .int (iI li), .int (iI nx), .int (iI bg), .int (iI tk), .int (iI er), .int (iI ea), .int (iI ep), .int (iI nd), .ref od, .ref ow, .int (iI oc)]) := fm
  have hR0 := hR
  obtain ⟨mR, fR⟩ := hR
  have fR : h.2 rr = .inl (G.2.1 0, 1456, .inl g) := fR
  have nmr : m ≠ rr := ne_oi fm fR
  show RR G MX12_isSheet 0 [(0, .ref m), (1, .int (iI z))] [] h (xm_R MX12_isSheet).cells (xm_R MX12_isSheet).slots (qI (b2 (inR z 0 ((n : Int) - 1))) h)
  refine r_iload_n dX12_isSheet_0 1 rfl ?_
  refine i_const (0) dX12_isSheet_1 ?_
  refine r_aload_n dX12_isSheet_2 0 rfl ?_
  refine r_get cl_X12 5 (by decide) kf_X12_25 dX12_isSheet_3 mm fm rfl ?_
  refine i_const (3) dX12_isSheet_6 ?_
  refine i_iald 3 rfl dX12_isSheet_7 mR fR (by omega) (by decide) hc ?_
  refine i_const (1) dX12_isSheet_8 ?_
  refine i_sub dX12_isSheet_9 ?_
  refine p_callS (As := [.int (iI z), .int (iI 0), .int (iI ((n : Int) - 1))]) (rest := []) (w := (some (.int (iI (b2 (inR z 0 ((n : Int) - 1))))))) (st' := [.int (iI (b2 (inR z 0 ((n : Int) - 1))))]) kv_X12_isSheet_107 dX12_isSheet_10 rfl rfl (Nat.le_of_ble_eq_true rfl) (Nat.le_of_ble_eq_true rfl) rfl rfl (c_X12_inRange hz ⟨by decide, by decide⟩ (by unfold in32; omega)) rfl (fun h9 e9 => ?_)
  rw [show h9 = h from e9]
  refine r_ireturn rfl (b2_nar _) dX12_isSheet_13 ?_
  exact ⟨rfl, rfl⟩
set_option maxRecDepth 20000 in
set_option maxHeartbeats 1000000 in
theorem c_X12_lacks {G : xG} {h : xH} {m : Nat} {a : MA} {r : MR} (hM : MO G h m a r) {b : Bool} : CC G MX12_lacks [.ref m, .int (iI (b2 b))] h (fun o h' => o = .inl (some (.int (iI (b2 (!b))))) ∧ MO G h' m a (r_th r (if b then 0 else 1)) ∧ FRp [m] h h') := by
  obtain ⟨nw, dr, kp, sv, hy, ou, bu, od, ow⟩ := a
  obtain ⟨rr, un, th, lc, re, lz, bz, jz, sd, ol, bl, li, nx, bg, tk, er, ea, ep, nd, oc⟩ := r
  have hM0 := hM
  obtain ⟨mm, fm⟩ := hM
  have fm : h.2 m = .inr (8, [.ref nw, .ref dr, .ref kp, .ref sv, .ref hy, .ref rr, .int (iI un), .int (iI th), .int (iI lc), .int (iI re), .int (iI lz), .int (iI bz), .int (iI jz), .int (iI (b2 sd)), .ref ou, .int (iI ol), .ref bu, .int (iI bl), .int (iI li), .int (iI nx), .int (iI bg), .int (iI tk), .int (iI er), .int (iI ea), .int (iI ep), .int (iI nd), .ref od, .ref ow, .int (iI oc)]) := fm
  show RR G MX12_lacks 0 [(0, .ref m), (1, .int (iI (b2 b)))] [] h (xm_R MX12_lacks).cells (xm_R MX12_lacks).slots (fun o h' => o = .inl (some (.int (iI (b2 (!b))))) ∧ MO G h' m (nw, dr, kp, sv, hy, ou, bu, od, ow) (r_th (rr, un, th, lc, re, lz, bz, jz, sd, ol, bl, li, nx, bg, tk, er, ea, ep, nd, oc) (if b then 0 else 1)) ∧ FRp [m] h h')
  refine r_aload_n dX12_lacks_0 0 rfl ?_
  refine r_iload_n dX12_lacks_1 1 rfl ?_
  refine i_ifeqb dX12_lacks_2 (tgt := 9) (by decide) (fun c2 => ?_) (fun c2 => ?_)
  · refine i_const (1) dX12_lacks_9 ?_
    refine i_put [.ref nw, .ref dr, .ref kp, .ref sv, .ref hy, .ref rr, .int (iI un), .int (iI 1), .int (iI lc), .int (iI re), .int (iI lz), .int (iI bz), .int (iI jz), .int (iI (b2 sd)), .ref ou, .int (iI ol), .ref bu, .int (iI bl), .int (iI li), .int (iI nx), .int (iI bg), .int (iI tk), .int (iI er), .int (iI ea), .int (iI ep), .int (iI nd), .ref od, .ref ow, .int (iI oc)] cl_X12 7 (by decide) kf_X12_79 rfl dX12_lacks_10 mm fm rfl rfl (by simp) rfl (fun h1 e0_1 e1_1 e2_1 => ?_)
    have mm_1 : m ∈ h1.1 := by rw [e0_1]; exact mm
    refine r_iload_n dX12_lacks_13 1 rfl ?_
    refine i_ifneb dX12_lacks_14 (tgt := 21) (by decide) (fun c => by rw [c2] at c; cases c) (fun _ => ?_)
    refine i_const (1) dX12_lacks_17 ?_
    refine r_goto dX12_lacks_18 (tgt := 22) (by decide) ?_
    refine r_ireturn rfl (b2_nar true) dX12_lacks_22 ?_
    rw [c2]
    exact ⟨rfl, ⟨mm_1, e1_1⟩, (FRp.w (by simp) e0_1 e2_1)⟩
  · refine i_const (0) dX12_lacks_5 ?_
    refine r_goto dX12_lacks_6 (tgt := 10) (by decide) ?_
    refine i_put [.ref nw, .ref dr, .ref kp, .ref sv, .ref hy, .ref rr, .int (iI un), .int (iI 0), .int (iI lc), .int (iI re), .int (iI lz), .int (iI bz), .int (iI jz), .int (iI (b2 sd)), .ref ou, .int (iI ol), .ref bu, .int (iI bl), .int (iI li), .int (iI nx), .int (iI bg), .int (iI tk), .int (iI er), .int (iI ea), .int (iI ep), .int (iI nd), .ref od, .ref ow, .int (iI oc)] cl_X12 7 (by decide) kf_X12_79 rfl dX12_lacks_10 mm fm rfl rfl (by simp) rfl (fun h2 e0_2 e1_2 e2_2 => ?_)
    have mm_2 : m ∈ h2.1 := by rw [e0_2]; exact mm
    refine r_iload_n dX12_lacks_13 1 rfl ?_
    refine i_ifneb dX12_lacks_14 (tgt := 21) (by decide) (fun _ => ?_) (fun c => by rw [c2] at c; cases c)
    refine i_const (0) dX12_lacks_21 ?_
    refine r_ireturn rfl (b2_nar false) dX12_lacks_22 ?_
    rw [c2]
    exact ⟨rfl, ⟨mm_2, e1_2⟩, (FRp.w (by simp) e0_2 e2_2)⟩
