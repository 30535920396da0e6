/-! the states as records -/
abbrev Rst : Type := Int32 × Nat × Int32 × Nat × Nat × Nat × Nat × Int32 × Int64 × (Nat → Int32) × (Nat → Int32) × (Nat → Int32) × (Nat → Int32) × (Nat → Int32) × (Nat → Int32) × (Nat → Int32) × (Nat → Int32) × (Nat → Int32) × (Nat → Int64)
def Rst.version (r : Rst) : Int32 := r.1
def Rst.s_version (r : Rst) (x : Int32) : Rst := (x, r.2.1, r.2.2.1, r.2.2.2.1, r.2.2.2.2.1, r.2.2.2.2.2.1, r.2.2.2.2.2.2.1, r.2.2.2.2.2.2.2.1, r.2.2.2.2.2.2.2.2.1, r.2.2.2.2.2.2.2.2.2.1, r.2.2.2.2.2.2.2.2.2.2.1, r.2.2.2.2.2.2.2.2.2.2.2.1, r.2.2.2.2.2.2.2.2.2.2.2.2.1, r.2.2.2.2.2.2.2.2.2.2.2.2.2.1, r.2.2.2.2.2.2.2.2.2.2.2.2.2.2.1, r.2.2.2.2.2.2.2.2.2.2.2.2.2.2.2.1, r.2.2.2.2.2.2.2.2.2.2.2.2.2.2.2.2.1, r.2.2.2.2.2.2.2.2.2.2.2.2.2.2.2.2.2.1, r.2.2.2.2.2.2.2.2.2.2.2.2.2.2.2.2.2.2)
def Rst.found (r : Rst) : Nat := r.2.1
def Rst.s_found (r : Rst) (x : Nat) : Rst := (r.1, x, r.2.2.1, r.2.2.2.1, r.2.2.2.2.1, r.2.2.2.2.2.1, r.2.2.2.2.2.2.1, r.2.2.2.2.2.2.2.1, r.2.2.2.2.2.2.2.2.1, r.2.2.2.2.2.2.2.2.2.1, r.2.2.2.2.2.2.2.2.2.2.1, r.2.2.2.2.2.2.2.2.2.2.2.1, r.2.2.2.2.2.2.2.2.2.2.2.2.1, r.2.2.2.2.2.2.2.2.2.2.2.2.2.1, r.2.2.2.2.2.2.2.2.2.2.2.2.2.2.1, r.2.2.2.2.2.2.2.2.2.2.2.2.2.2.2.1, r.2.2.2.2.2.2.2.2.2.2.2.2.2.2.2.2.1, r.2.2.2.2.2.2.2.2.2.2.2.2.2.2.2.2.2.1, r.2.2.2.2.2.2.2.2.2.2.2.2.2.2.2.2.2.2)
def Rst.fault (r : Rst) : Int32 := r.2.2.1
def Rst.s_fault (r : Rst) (x : Int32) : Rst := (r.1, r.2.1, x, r.2.2.2.1, r.2.2.2.2.1, r.2.2.2.2.2.1, r.2.2.2.2.2.2.1, r.2.2.2.2.2.2.2.1, r.2.2.2.2.2.2.2.2.1, r.2.2.2.2.2.2.2.2.2.1, r.2.2.2.2.2.2.2.2.2.2.1, r.2.2.2.2.2.2.2.2.2.2.2.1, r.2.2.2.2.2.2.2.2.2.2.2.2.1, r.2.2.2.2.2.2.2.2.2.2.2.2.2.1, r.2.2.2.2.2.2.2.2.2.2.2.2.2.2.1, r.2.2.2.2.2.2.2.2.2.2.2.2.2.2.2.1, r.2.2.2.2.2.2.2.2.2.2.2.2.2.2.2.2.1, r.2.2.2.2.2.2.2.2.2.2.2.2.2.2.2.2.2.1, r.2.2.2.2.2.2.2.2.2.2.2.2.2.2.2.2.2.2)
def Rst.num (r : Rst) : Nat := r.2.2.2.1
def Rst.s_num (r : Rst) (x : Nat) : Rst := (r.1, r.2.1, r.2.2.1, x, r.2.2.2.2.1, r.2.2.2.2.2.1, r.2.2.2.2.2.2.1, r.2.2.2.2.2.2.2.1, r.2.2.2.2.2.2.2.2.1, r.2.2.2.2.2.2.2.2.2.1, r.2.2.2.2.2.2.2.2.2.2.1, r.2.2.2.2.2.2.2.2.2.2.2.1, r.2.2.2.2.2.2.2.2.2.2.2.2.1, r.2.2.2.2.2.2.2.2.2.2.2.2.2.1, r.2.2.2.2.2.2.2.2.2.2.2.2.2.2.1, r.2.2.2.2.2.2.2.2.2.2.2.2.2.2.2.1, r.2.2.2.2.2.2.2.2.2.2.2.2.2.2.2.2.1, r.2.2.2.2.2.2.2.2.2.2.2.2.2.2.2.2.2.1, r.2.2.2.2.2.2.2.2.2.2.2.2.2.2.2.2.2.2)
def Rst.words (r : Rst) : Nat := r.2.2.2.2.1
def Rst.s_words (r : Rst) (x : Nat) : Rst := (r.1, r.2.1, r.2.2.1, r.2.2.2.1, x, r.2.2.2.2.2.1, r.2.2.2.2.2.2.1, r.2.2.2.2.2.2.2.1, r.2.2.2.2.2.2.2.2.1, r.2.2.2.2.2.2.2.2.2.1, r.2.2.2.2.2.2.2.2.2.2.1, r.2.2.2.2.2.2.2.2.2.2.2.1, r.2.2.2.2.2.2.2.2.2.2.2.2.1, r.2.2.2.2.2.2.2.2.2.2.2.2.2.1, r.2.2.2.2.2.2.2.2.2.2.2.2.2.2.1, r.2.2.2.2.2.2.2.2.2.2.2.2.2.2.2.1, r.2.2.2.2.2.2.2.2.2.2.2.2.2.2.2.2.1, r.2.2.2.2.2.2.2.2.2.2.2.2.2.2.2.2.2.1, r.2.2.2.2.2.2.2.2.2.2.2.2.2.2.2.2.2.2)
def Rst.keeps (r : Rst) : Nat := r.2.2.2.2.2.1
def Rst.s_keeps (r : Rst) (x : Nat) : Rst := (r.1, r.2.1, r.2.2.1, r.2.2.2.1, r.2.2.2.2.1, x, r.2.2.2.2.2.2.1, r.2.2.2.2.2.2.2.1, r.2.2.2.2.2.2.2.2.1, r.2.2.2.2.2.2.2.2.2.1, r.2.2.2.2.2.2.2.2.2.2.1, r.2.2.2.2.2.2.2.2.2.2.2.1, r.2.2.2.2.2.2.2.2.2.2.2.2.1, r.2.2.2.2.2.2.2.2.2.2.2.2.2.1, r.2.2.2.2.2.2.2.2.2.2.2.2.2.2.1, r.2.2.2.2.2.2.2.2.2.2.2.2.2.2.2.1, r.2.2.2.2.2.2.2.2.2.2.2.2.2.2.2.2.1, r.2.2.2.2.2.2.2.2.2.2.2.2.2.2.2.2.2.1, r.2.2.2.2.2.2.2.2.2.2.2.2.2.2.2.2.2.2)
def Rst.dnow (r : Rst) : Nat := r.2.2.2.2.2.2.1
def Rst.s_dnow (r : Rst) (x : Nat) : Rst := (r.1, r.2.1, r.2.2.1, r.2.2.2.1, r.2.2.2.2.1, r.2.2.2.2.2.1, x, r.2.2.2.2.2.2.2.1, r.2.2.2.2.2.2.2.2.1, r.2.2.2.2.2.2.2.2.2.1, r.2.2.2.2.2.2.2.2.2.2.1, r.2.2.2.2.2.2.2.2.2.2.2.1, r.2.2.2.2.2.2.2.2.2.2.2.2.1, r.2.2.2.2.2.2.2.2.2.2.2.2.2.1, r.2.2.2.2.2.2.2.2.2.2.2.2.2.2.1, r.2.2.2.2.2.2.2.2.2.2.2.2.2.2.2.1, r.2.2.2.2.2.2.2.2.2.2.2.2.2.2.2.2.1, r.2.2.2.2.2.2.2.2.2.2.2.2.2.2.2.2.2.1, r.2.2.2.2.2.2.2.2.2.2.2.2.2.2.2.2.2.2)
def Rst.last (r : Rst) : Int32 := r.2.2.2.2.2.2.2.1
def Rst.s_last (r : Rst) (x : Int32) : Rst := (r.1, r.2.1, r.2.2.1, r.2.2.2.1, r.2.2.2.2.1, r.2.2.2.2.2.1, r.2.2.2.2.2.2.1, x, r.2.2.2.2.2.2.2.2.1, r.2.2.2.2.2.2.2.2.2.1, r.2.2.2.2.2.2.2.2.2.2.1, r.2.2.2.2.2.2.2.2.2.2.2.1, r.2.2.2.2.2.2.2.2.2.2.2.2.1, r.2.2.2.2.2.2.2.2.2.2.2.2.2.1, r.2.2.2.2.2.2.2.2.2.2.2.2.2.2.1, r.2.2.2.2.2.2.2.2.2.2.2.2.2.2.2.1, r.2.2.2.2.2.2.2.2.2.2.2.2.2.2.2.2.1, r.2.2.2.2.2.2.2.2.2.2.2.2.2.2.2.2.2.1, r.2.2.2.2.2.2.2.2.2.2.2.2.2.2.2.2.2.2)
def Rst.lnum (r : Rst) : Int64 := r.2.2.2.2.2.2.2.2.1
def Rst.s_lnum (r : Rst) (x : Int64) : Rst := (r.1, r.2.1, r.2.2.1, r.2.2.2.1, r.2.2.2.2.1, r.2.2.2.2.2.1, r.2.2.2.2.2.2.1, r.2.2.2.2.2.2.2.1, x, r.2.2.2.2.2.2.2.2.2.1, r.2.2.2.2.2.2.2.2.2.2.1, r.2.2.2.2.2.2.2.2.2.2.2.1, r.2.2.2.2.2.2.2.2.2.2.2.2.1, r.2.2.2.2.2.2.2.2.2.2.2.2.2.1, r.2.2.2.2.2.2.2.2.2.2.2.2.2.2.1, r.2.2.2.2.2.2.2.2.2.2.2.2.2.2.2.1, r.2.2.2.2.2.2.2.2.2.2.2.2.2.2.2.2.1, r.2.2.2.2.2.2.2.2.2.2.2.2.2.2.2.2.2.1, r.2.2.2.2.2.2.2.2.2.2.2.2.2.2.2.2.2.2)
def Rst.kinds (r : Rst) : (Nat → Int32) := r.2.2.2.2.2.2.2.2.2.1
def Rst.s_kinds (r : Rst) (x : (Nat → Int32)) : Rst := (r.1, r.2.1, r.2.2.1, r.2.2.2.1, r.2.2.2.2.1, r.2.2.2.2.2.1, r.2.2.2.2.2.2.1, r.2.2.2.2.2.2.2.1, r.2.2.2.2.2.2.2.2.1, x, r.2.2.2.2.2.2.2.2.2.2.1, r.2.2.2.2.2.2.2.2.2.2.2.1, r.2.2.2.2.2.2.2.2.2.2.2.2.1, r.2.2.2.2.2.2.2.2.2.2.2.2.2.1, r.2.2.2.2.2.2.2.2.2.2.2.2.2.2.1, r.2.2.2.2.2.2.2.2.2.2.2.2.2.2.2.1, r.2.2.2.2.2.2.2.2.2.2.2.2.2.2.2.2.1, r.2.2.2.2.2.2.2.2.2.2.2.2.2.2.2.2.2.1, r.2.2.2.2.2.2.2.2.2.2.2.2.2.2.2.2.2.2)
def Rst.parents (r : Rst) : (Nat → Int32) := r.2.2.2.2.2.2.2.2.2.2.1
def Rst.s_parents (r : Rst) (x : (Nat → Int32)) : Rst := (r.1, r.2.1, r.2.2.1, r.2.2.2.1, r.2.2.2.2.1, r.2.2.2.2.2.1, r.2.2.2.2.2.2.1, r.2.2.2.2.2.2.2.1, r.2.2.2.2.2.2.2.2.1, r.2.2.2.2.2.2.2.2.2.1, x, r.2.2.2.2.2.2.2.2.2.2.2.1, r.2.2.2.2.2.2.2.2.2.2.2.2.1, r.2.2.2.2.2.2.2.2.2.2.2.2.2.1, r.2.2.2.2.2.2.2.2.2.2.2.2.2.2.1, r.2.2.2.2.2.2.2.2.2.2.2.2.2.2.2.1, r.2.2.2.2.2.2.2.2.2.2.2.2.2.2.2.2.1, r.2.2.2.2.2.2.2.2.2.2.2.2.2.2.2.2.2.1, r.2.2.2.2.2.2.2.2.2.2.2.2.2.2.2.2.2.2)
def Rst.tsz (r : Rst) : (Nat → Int32) := r.2.2.2.2.2.2.2.2.2.2.2.1
def Rst.s_tsz (r : Rst) (x : (Nat → Int32)) : Rst := (r.1, r.2.1, r.2.2.1, r.2.2.2.1, r.2.2.2.2.1, r.2.2.2.2.2.1, r.2.2.2.2.2.2.1, r.2.2.2.2.2.2.2.1, r.2.2.2.2.2.2.2.2.1, r.2.2.2.2.2.2.2.2.2.1, r.2.2.2.2.2.2.2.2.2.2.1, x, r.2.2.2.2.2.2.2.2.2.2.2.2.1, r.2.2.2.2.2.2.2.2.2.2.2.2.2.1, r.2.2.2.2.2.2.2.2.2.2.2.2.2.2.1, r.2.2.2.2.2.2.2.2.2.2.2.2.2.2.2.1, r.2.2.2.2.2.2.2.2.2.2.2.2.2.2.2.2.1, r.2.2.2.2.2.2.2.2.2.2.2.2.2.2.2.2.2.1, r.2.2.2.2.2.2.2.2.2.2.2.2.2.2.2.2.2.2)
def Rst.chars (r : Rst) : (Nat → Int32) := r.2.2.2.2.2.2.2.2.2.2.2.2.1
def Rst.s_chars (r : Rst) (x : (Nat → Int32)) : Rst := (r.1, r.2.1, r.2.2.1, r.2.2.2.1, r.2.2.2.2.1, r.2.2.2.2.2.1, r.2.2.2.2.2.2.1, r.2.2.2.2.2.2.2.1, r.2.2.2.2.2.2.2.2.1, r.2.2.2.2.2.2.2.2.2.1, r.2.2.2.2.2.2.2.2.2.2.1, r.2.2.2.2.2.2.2.2.2.2.2.1, x, r.2.2.2.2.2.2.2.2.2.2.2.2.2.1, r.2.2.2.2.2.2.2.2.2.2.2.2.2.2.1, r.2.2.2.2.2.2.2.2.2.2.2.2.2.2.2.1, r.2.2.2.2.2.2.2.2.2.2.2.2.2.2.2.2.1, r.2.2.2.2.2.2.2.2.2.2.2.2.2.2.2.2.2.1, r.2.2.2.2.2.2.2.2.2.2.2.2.2.2.2.2.2.2)
def Rst.kfrom (r : Rst) : (Nat → Int32) := r.2.2.2.2.2.2.2.2.2.2.2.2.2.1
def Rst.s_kfrom (r : Rst) (x : (Nat → Int32)) : Rst := (r.1, r.2.1, r.2.2.1, r.2.2.2.1, r.2.2.2.2.1, r.2.2.2.2.2.1, r.2.2.2.2.2.2.1, r.2.2.2.2.2.2.2.1, r.2.2.2.2.2.2.2.2.1, r.2.2.2.2.2.2.2.2.2.1, r.2.2.2.2.2.2.2.2.2.2.1, r.2.2.2.2.2.2.2.2.2.2.2.1, r.2.2.2.2.2.2.2.2.2.2.2.2.1, x, r.2.2.2.2.2.2.2.2.2.2.2.2.2.2.1, r.2.2.2.2.2.2.2.2.2.2.2.2.2.2.2.1, r.2.2.2.2.2.2.2.2.2.2.2.2.2.2.2.2.1, r.2.2.2.2.2.2.2.2.2.2.2.2.2.2.2.2.2.1, r.2.2.2.2.2.2.2.2.2.2.2.2.2.2.2.2.2.2)
def Rst.ksz (r : Rst) : (Nat → Int32) := r.2.2.2.2.2.2.2.2.2.2.2.2.2.2.1
def Rst.s_ksz (r : Rst) (x : (Nat → Int32)) : Rst := (r.1, r.2.1, r.2.2.1, r.2.2.2.1, r.2.2.2.2.1, r.2.2.2.2.2.1, r.2.2.2.2.2.2.1, r.2.2.2.2.2.2.2.1, r.2.2.2.2.2.2.2.2.1, r.2.2.2.2.2.2.2.2.2.1, r.2.2.2.2.2.2.2.2.2.2.1, r.2.2.2.2.2.2.2.2.2.2.2.1, r.2.2.2.2.2.2.2.2.2.2.2.2.1, r.2.2.2.2.2.2.2.2.2.2.2.2.2.1, x, r.2.2.2.2.2.2.2.2.2.2.2.2.2.2.2.1, r.2.2.2.2.2.2.2.2.2.2.2.2.2.2.2.2.1, r.2.2.2.2.2.2.2.2.2.2.2.2.2.2.2.2.2.1, r.2.2.2.2.2.2.2.2.2.2.2.2.2.2.2.2.2.2)
def Rst.kept (r : Rst) : (Nat → Int32) := r.2.2.2.2.2.2.2.2.2.2.2.2.2.2.2.1
def Rst.s_kept (r : Rst) (x : (Nat → Int32)) : Rst := (r.1, r.2.1, r.2.2.1, r.2.2.2.1, r.2.2.2.2.1, r.2.2.2.2.2.1, r.2.2.2.2.2.2.1, r.2.2.2.2.2.2.2.1, r.2.2.2.2.2.2.2.2.1, r.2.2.2.2.2.2.2.2.2.1, r.2.2.2.2.2.2.2.2.2.2.1, r.2.2.2.2.2.2.2.2.2.2.2.1, r.2.2.2.2.2.2.2.2.2.2.2.2.1, r.2.2.2.2.2.2.2.2.2.2.2.2.2.1, r.2.2.2.2.2.2.2.2.2.2.2.2.2.2.1, x, r.2.2.2.2.2.2.2.2.2.2.2.2.2.2.2.2.1, r.2.2.2.2.2.2.2.2.2.2.2.2.2.2.2.2.2.1, r.2.2.2.2.2.2.2.2.2.2.2.2.2.2.2.2.2.2)
def Rst.opn (r : Rst) : (Nat → Int32) := r.2.2.2.2.2.2.2.2.2.2.2.2.2.2.2.2.1
def Rst.s_opn (r : Rst) (x : (Nat → Int32)) : Rst := (r.1, r.2.1, r.2.2.1, r.2.2.2.1, r.2.2.2.2.1, r.2.2.2.2.2.1, r.2.2.2.2.2.2.1, r.2.2.2.2.2.2.2.1, r.2.2.2.2.2.2.2.2.1, r.2.2.2.2.2.2.2.2.2.1, r.2.2.2.2.2.2.2.2.2.2.1, r.2.2.2.2.2.2.2.2.2.2.2.1, r.2.2.2.2.2.2.2.2.2.2.2.2.1, r.2.2.2.2.2.2.2.2.2.2.2.2.2.1, r.2.2.2.2.2.2.2.2.2.2.2.2.2.2.1, r.2.2.2.2.2.2.2.2.2.2.2.2.2.2.2.1, x, r.2.2.2.2.2.2.2.2.2.2.2.2.2.2.2.2.2.1, r.2.2.2.2.2.2.2.2.2.2.2.2.2.2.2.2.2.2)
def Rst.okind (r : Rst) : (Nat → Int32) := r.2.2.2.2.2.2.2.2.2.2.2.2.2.2.2.2.2.1
def Rst.s_okind (r : Rst) (x : (Nat → Int32)) : Rst := (r.1, r.2.1, r.2.2.1, r.2.2.2.1, r.2.2.2.2.1, r.2.2.2.2.2.1, r.2.2.2.2.2.2.1, r.2.2.2.2.2.2.2.1, r.2.2.2.2.2.2.2.2.1, r.2.2.2.2.2.2.2.2.2.1, r.2.2.2.2.2.2.2.2.2.2.1, r.2.2.2.2.2.2.2.2.2.2.2.1, r.2.2.2.2.2.2.2.2.2.2.2.2.1, r.2.2.2.2.2.2.2.2.2.2.2.2.2.1, r.2.2.2.2.2.2.2.2.2.2.2.2.2.2.1, r.2.2.2.2.2.2.2.2.2.2.2.2.2.2.2.1, r.2.2.2.2.2.2.2.2.2.2.2.2.2.2.2.2.1, x, r.2.2.2.2.2.2.2.2.2.2.2.2.2.2.2.2.2.2)
def Rst.nums (r : Rst) : (Nat → Int64) := r.2.2.2.2.2.2.2.2.2.2.2.2.2.2.2.2.2.2
def Rst.s_nums (r : Rst) (x : (Nat → Int64)) : Rst := (r.1, r.2.1, r.2.2.1, r.2.2.2.1, r.2.2.2.2.1, r.2.2.2.2.2.1, r.2.2.2.2.2.2.1, r.2.2.2.2.2.2.2.1, r.2.2.2.2.2.2.2.2.1, r.2.2.2.2.2.2.2.2.2.1, r.2.2.2.2.2.2.2.2.2.2.1, r.2.2.2.2.2.2.2.2.2.2.2.1, r.2.2.2.2.2.2.2.2.2.2.2.2.1, r.2.2.2.2.2.2.2.2.2.2.2.2.2.1, r.2.2.2.2.2.2.2.2.2.2.2.2.2.2.1, r.2.2.2.2.2.2.2.2.2.2.2.2.2.2.2.1, r.2.2.2.2.2.2.2.2.2.2.2.2.2.2.2.2.1, r.2.2.2.2.2.2.2.2.2.2.2.2.2.2.2.2.2.1, x)
theorem R_version_version (r : Rst) (x : Int32) : (r.s_version x).version = x := id rfl
theorem R_version_found (r : Rst) (x : Int32) : (r.s_version x).found = r.found := id rfl
theorem R_version_fault (r : Rst) (x : Int32) : (r.s_version x).fault = r.fault := id rfl
theorem R_version_num (r : Rst) (x : Int32) : (r.s_version x).num = r.num := id rfl
theorem R_version_words (r : Rst) (x : Int32) : (r.s_version x).words = r.words := id rfl
theorem R_version_keeps (r : Rst) (x : Int32) : (r.s_version x).keeps = r.keeps := id rfl
theorem R_version_dnow (r : Rst) (x : Int32) : (r.s_version x).dnow = r.dnow := id rfl
theorem R_version_last (r : Rst) (x : Int32) : (r.s_version x).last = r.last := id rfl
theorem R_version_lnum (r : Rst) (x : Int32) : (r.s_version x).lnum = r.lnum := id rfl
theorem R_version_kinds (r : Rst) (x : Int32) : (r.s_version x).kinds = r.kinds := id rfl
theorem R_version_parents (r : Rst) (x : Int32) : (r.s_version x).parents = r.parents := id rfl
theorem R_version_tsz (r : Rst) (x : Int32) : (r.s_version x).tsz = r.tsz := id rfl
theorem R_version_chars (r : Rst) (x : Int32) : (r.s_version x).chars = r.chars := id rfl
theorem R_version_kfrom (r : Rst) (x : Int32) : (r.s_version x).kfrom = r.kfrom := id rfl
theorem R_version_ksz (r : Rst) (x : Int32) : (r.s_version x).ksz = r.ksz := id rfl
theorem R_version_kept (r : Rst) (x : Int32) : (r.s_version x).kept = r.kept := id rfl
theorem R_version_opn (r : Rst) (x : Int32) : (r.s_version x).opn = r.opn := id rfl
theorem R_version_okind (r : Rst) (x : Int32) : (r.s_version x).okind = r.okind := id rfl
theorem R_version_nums (r : Rst) (x : Int32) : (r.s_version x).nums = r.nums := id rfl
theorem R_found_version (r : Rst) (x : Nat) : (r.s_found x).version = r.version := id rfl
theorem R_found_found (r : Rst) (x : Nat) : (r.s_found x).found = x := id rfl
theorem R_found_fault (r : Rst) (x : Nat) : (r.s_found x).fault = r.fault := id rfl
theorem R_found_num (r : Rst) (x : Nat) : (r.s_found x).num = r.num := id rfl
theorem R_found_words (r : Rst) (x : Nat) : (r.s_found x).words = r.words := id rfl
theorem R_found_keeps (r : Rst) (x : Nat) : (r.s_found x).keeps = r.keeps := id rfl
theorem R_found_dnow (r : Rst) (x : Nat) : (r.s_found x).dnow = r.dnow := id rfl
theorem R_found_last (r : Rst) (x : Nat) : (r.s_found x).last = r.last := id rfl
theorem R_found_lnum (r : Rst) (x : Nat) : (r.s_found x).lnum = r.lnum := id rfl
theorem R_found_kinds (r : Rst) (x : Nat) : (r.s_found x).kinds = r.kinds := id rfl
theorem R_found_parents (r : Rst) (x : Nat) : (r.s_found x).parents = r.parents := id rfl
theorem R_found_tsz (r : Rst) (x : Nat) : (r.s_found x).tsz = r.tsz := id rfl
theorem R_found_chars (r : Rst) (x : Nat) : (r.s_found x).chars = r.chars := id rfl
theorem R_found_kfrom (r : Rst) (x : Nat) : (r.s_found x).kfrom = r.kfrom := id rfl
theorem R_found_ksz (r : Rst) (x : Nat) : (r.s_found x).ksz = r.ksz := id rfl
theorem R_found_kept (r : Rst) (x : Nat) : (r.s_found x).kept = r.kept := id rfl
theorem R_found_opn (r : Rst) (x : Nat) : (r.s_found x).opn = r.opn := id rfl
theorem R_found_okind (r : Rst) (x : Nat) : (r.s_found x).okind = r.okind := id rfl
theorem R_found_nums (r : Rst) (x : Nat) : (r.s_found x).nums = r.nums := id rfl
theorem R_fault_version (r : Rst) (x : Int32) : (r.s_fault x).version = r.version := id rfl
theorem R_fault_found (r : Rst) (x : Int32) : (r.s_fault x).found = r.found := id rfl
theorem R_fault_fault (r : Rst) (x : Int32) : (r.s_fault x).fault = x := id rfl
theorem R_fault_num (r : Rst) (x : Int32) : (r.s_fault x).num = r.num := id rfl
theorem R_fault_words (r : Rst) (x : Int32) : (r.s_fault x).words = r.words := id rfl
theorem R_fault_keeps (r : Rst) (x : Int32) : (r.s_fault x).keeps = r.keeps := id rfl
theorem R_fault_dnow (r : Rst) (x : Int32) : (r.s_fault x).dnow = r.dnow := id rfl
theorem R_fault_last (r : Rst) (x : Int32) : (r.s_fault x).last = r.last := id rfl
theorem R_fault_lnum (r : Rst) (x : Int32) : (r.s_fault x).lnum = r.lnum := id rfl
theorem R_fault_kinds (r : Rst) (x : Int32) : (r.s_fault x).kinds = r.kinds := id rfl
theorem R_fault_parents (r : Rst) (x : Int32) : (r.s_fault x).parents = r.parents := id rfl
theorem R_fault_tsz (r : Rst) (x : Int32) : (r.s_fault x).tsz = r.tsz := id rfl
theorem R_fault_chars (r : Rst) (x : Int32) : (r.s_fault x).chars = r.chars := id rfl
theorem R_fault_kfrom (r : Rst) (x : Int32) : (r.s_fault x).kfrom = r.kfrom := id rfl
theorem R_fault_ksz (r : Rst) (x : Int32) : (r.s_fault x).ksz = r.ksz := id rfl
theorem R_fault_kept (r : Rst) (x : Int32) : (r.s_fault x).kept = r.kept := id rfl
theorem R_fault_opn (r : Rst) (x : Int32) : (r.s_fault x).opn = r.opn := id rfl
theorem R_fault_okind (r : Rst) (x : Int32) : (r.s_fault x).okind = r.okind := id rfl
theorem R_fault_nums (r : Rst) (x : Int32) : (r.s_fault x).nums = r.nums := id rfl
theorem R_num_version (r : Rst) (x : Nat) : (r.s_num x).version = r.version := id rfl
theorem R_num_found (r : Rst) (x : Nat) : (r.s_num x).found = r.found := id rfl
theorem R_num_fault (r : Rst) (x : Nat) : (r.s_num x).fault = r.fault := id rfl
theorem R_num_num (r : Rst) (x : Nat) : (r.s_num x).num = x := id rfl
theorem R_num_words (r : Rst) (x : Nat) : (r.s_num x).words = r.words := id rfl
theorem R_num_keeps (r : Rst) (x : Nat) : (r.s_num x).keeps = r.keeps := id rfl
theorem R_num_dnow (r : Rst) (x : Nat) : (r.s_num x).dnow = r.dnow := id rfl
theorem R_num_last (r : Rst) (x : Nat) : (r.s_num x).last = r.last := id rfl
theorem R_num_lnum (r : Rst) (x : Nat) : (r.s_num x).lnum = r.lnum := id rfl
theorem R_num_kinds (r : Rst) (x : Nat) : (r.s_num x).kinds = r.kinds := id rfl
theorem R_num_parents (r : Rst) (x : Nat) : (r.s_num x).parents = r.parents := id rfl
theorem R_num_tsz (r : Rst) (x : Nat) : (r.s_num x).tsz = r.tsz := id rfl
theorem R_num_chars (r : Rst) (x : Nat) : (r.s_num x).chars = r.chars := id rfl
theorem R_num_kfrom (r : Rst) (x : Nat) : (r.s_num x).kfrom = r.kfrom := id rfl
theorem R_num_ksz (r : Rst) (x : Nat) : (r.s_num x).ksz = r.ksz := id rfl
theorem R_num_kept (r : Rst) (x : Nat) : (r.s_num x).kept = r.kept := id rfl
theorem R_num_opn (r : Rst) (x : Nat) : (r.s_num x).opn = r.opn := id rfl
theorem R_num_okind (r : Rst) (x : Nat) : (r.s_num x).okind = r.okind := id rfl
theorem R_num_nums (r : Rst) (x : Nat) : (r.s_num x).nums = r.nums := id rfl
theorem R_words_version (r : Rst) (x : Nat) : (r.s_words x).version = r.version := id rfl
theorem R_words_found (r : Rst) (x : Nat) : (r.s_words x).found = r.found := id rfl
theorem R_words_fault (r : Rst) (x : Nat) : (r.s_words x).fault = r.fault := id rfl
theorem R_words_num (r : Rst) (x : Nat) : (r.s_words x).num = r.num := id rfl
theorem R_words_words (r : Rst) (x : Nat) : (r.s_words x).words = x := id rfl
theorem R_words_keeps (r : Rst) (x : Nat) : (r.s_words x).keeps = r.keeps := id rfl
theorem R_words_dnow (r : Rst) (x : Nat) : (r.s_words x).dnow = r.dnow := id rfl
theorem R_words_last (r : Rst) (x : Nat) : (r.s_words x).last = r.last := id rfl
theorem R_words_lnum (r : Rst) (x : Nat) : (r.s_words x).lnum = r.lnum := id rfl
theorem R_words_kinds (r : Rst) (x : Nat) : (r.s_words x).kinds = r.kinds := id rfl
theorem R_words_parents (r : Rst) (x : Nat) : (r.s_words x).parents = r.parents := id rfl
theorem R_words_tsz (r : Rst) (x : Nat) : (r.s_words x).tsz = r.tsz := id rfl
theorem R_words_chars (r : Rst) (x : Nat) : (r.s_words x).chars = r.chars := id rfl
theorem R_words_kfrom (r : Rst) (x : Nat) : (r.s_words x).kfrom = r.kfrom := id rfl
theorem R_words_ksz (r : Rst) (x : Nat) : (r.s_words x).ksz = r.ksz := id rfl
theorem R_words_kept (r : Rst) (x : Nat) : (r.s_words x).kept = r.kept := id rfl
theorem R_words_opn (r : Rst) (x : Nat) : (r.s_words x).opn = r.opn := id rfl
theorem R_words_okind (r : Rst) (x : Nat) : (r.s_words x).okind = r.okind := id rfl
theorem R_words_nums (r : Rst) (x : Nat) : (r.s_words x).nums = r.nums := id rfl
theorem R_keeps_version (r : Rst) (x : Nat) : (r.s_keeps x).version = r.version := id rfl
theorem R_keeps_found (r : Rst) (x : Nat) : (r.s_keeps x).found = r.found := id rfl
theorem R_keeps_fault (r : Rst) (x : Nat) : (r.s_keeps x).fault = r.fault := id rfl
theorem R_keeps_num (r : Rst) (x : Nat) : (r.s_keeps x).num = r.num := id rfl
theorem R_keeps_words (r : Rst) (x : Nat) : (r.s_keeps x).words = r.words := id rfl
theorem R_keeps_keeps (r : Rst) (x : Nat) : (r.s_keeps x).keeps = x := id rfl
theorem R_keeps_dnow (r : Rst) (x : Nat) : (r.s_keeps x).dnow = r.dnow := id rfl
theorem R_keeps_last (r : Rst) (x : Nat) : (r.s_keeps x).last = r.last := id rfl
theorem R_keeps_lnum (r : Rst) (x : Nat) : (r.s_keeps x).lnum = r.lnum := id rfl
theorem R_keeps_kinds (r : Rst) (x : Nat) : (r.s_keeps x).kinds = r.kinds := id rfl
theorem R_keeps_parents (r : Rst) (x : Nat) : (r.s_keeps x).parents = r.parents := id rfl
theorem R_keeps_tsz (r : Rst) (x : Nat) : (r.s_keeps x).tsz = r.tsz := id rfl
theorem R_keeps_chars (r : Rst) (x : Nat) : (r.s_keeps x).chars = r.chars := id rfl
theorem R_keeps_kfrom (r : Rst) (x : Nat) : (r.s_keeps x).kfrom = r.kfrom := id rfl
theorem R_keeps_ksz (r : Rst) (x : Nat) : (r.s_keeps x).ksz = r.ksz := id rfl
theorem R_keeps_kept (r : Rst) (x : Nat) : (r.s_keeps x).kept = r.kept := id rfl
theorem R_keeps_opn (r : Rst) (x : Nat) : (r.s_keeps x).opn = r.opn := id rfl
theorem R_keeps_okind (r : Rst) (x : Nat) : (r.s_keeps x).okind = r.okind := id rfl
theorem R_keeps_nums (r : Rst) (x : Nat) : (r.s_keeps x).nums = r.nums := id rfl
theorem R_dnow_version (r : Rst) (x : Nat) : (r.s_dnow x).version = r.version := id rfl
theorem R_dnow_found (r : Rst) (x : Nat) : (r.s_dnow x).found = r.found := id rfl
theorem R_dnow_fault (r : Rst) (x : Nat) : (r.s_dnow x).fault = r.fault := id rfl
theorem R_dnow_num (r : Rst) (x : Nat) : (r.s_dnow x).num = r.num := id rfl
theorem R_dnow_words (r : Rst) (x : Nat) : (r.s_dnow x).words = r.words := id rfl
theorem R_dnow_keeps (r : Rst) (x : Nat) : (r.s_dnow x).keeps = r.keeps := id rfl
theorem R_dnow_dnow (r : Rst) (x : Nat) : (r.s_dnow x).dnow = x := id rfl
theorem R_dnow_last (r : Rst) (x : Nat) : (r.s_dnow x).last = r.last := id rfl
theorem R_dnow_lnum (r : Rst) (x : Nat) : (r.s_dnow x).lnum = r.lnum := id rfl
theorem R_dnow_kinds (r : Rst) (x : Nat) : (r.s_dnow x).kinds = r.kinds := id rfl
theorem R_dnow_parents (r : Rst) (x : Nat) : (r.s_dnow x).parents = r.parents := id rfl
theorem R_dnow_tsz (r : Rst) (x : Nat) : (r.s_dnow x).tsz = r.tsz := id rfl
theorem R_dnow_chars (r : Rst) (x : Nat) : (r.s_dnow x).chars = r.chars := id rfl
theorem R_dnow_kfrom (r : Rst) (x : Nat) : (r.s_dnow x).kfrom = r.kfrom := id rfl
theorem R_dnow_ksz (r : Rst) (x : Nat) : (r.s_dnow x).ksz = r.ksz := id rfl
theorem R_dnow_kept (r : Rst) (x : Nat) : (r.s_dnow x).kept = r.kept := id rfl
theorem R_dnow_opn (r : Rst) (x : Nat) : (r.s_dnow x).opn = r.opn := id rfl
theorem R_dnow_okind (r : Rst) (x : Nat) : (r.s_dnow x).okind = r.okind := id rfl
theorem R_dnow_nums (r : Rst) (x : Nat) : (r.s_dnow x).nums = r.nums := id rfl
theorem R_last_version (r : Rst) (x : Int32) : (r.s_last x).version = r.version := id rfl
theorem R_last_found (r : Rst) (x : Int32) : (r.s_last x).found = r.found := id rfl
theorem R_last_fault (r : Rst) (x : Int32) : (r.s_last x).fault = r.fault := id rfl
theorem R_last_num (r : Rst) (x : Int32) : (r.s_last x).num = r.num := id rfl
theorem R_last_words (r : Rst) (x : Int32) : (r.s_last x).words = r.words := id rfl
theorem R_last_keeps (r : Rst) (x : Int32) : (r.s_last x).keeps = r.keeps := id rfl
theorem R_last_dnow (r : Rst) (x : Int32) : (r.s_last x).dnow = r.dnow := id rfl
theorem R_last_last (r : Rst) (x : Int32) : (r.s_last x).last = x := id rfl
theorem R_last_lnum (r : Rst) (x : Int32) : (r.s_last x).lnum = r.lnum := id rfl
theorem R_last_kinds (r : Rst) (x : Int32) : (r.s_last x).kinds = r.kinds := id rfl
theorem R_last_parents (r : Rst) (x : Int32) : (r.s_last x).parents = r.parents := id rfl
theorem R_last_tsz (r : Rst) (x : Int32) : (r.s_last x).tsz = r.tsz := id rfl
theorem R_last_chars (r : Rst) (x : Int32) : (r.s_last x).chars = r.chars := id rfl
theorem R_last_kfrom (r : Rst) (x : Int32) : (r.s_last x).kfrom = r.kfrom := id rfl
theorem R_last_ksz (r : Rst) (x : Int32) : (r.s_last x).ksz = r.ksz := id rfl
theorem R_last_kept (r : Rst) (x : Int32) : (r.s_last x).kept = r.kept := id rfl
theorem R_last_opn (r : Rst) (x : Int32) : (r.s_last x).opn = r.opn := id rfl
theorem R_last_okind (r : Rst) (x : Int32) : (r.s_last x).okind = r.okind := id rfl
theorem R_last_nums (r : Rst) (x : Int32) : (r.s_last x).nums = r.nums := id rfl
theorem R_lnum_version (r : Rst) (x : Int64) : (r.s_lnum x).version = r.version := id rfl
theorem R_lnum_found (r : Rst) (x : Int64) : (r.s_lnum x).found = r.found := id rfl
theorem R_lnum_fault (r : Rst) (x : Int64) : (r.s_lnum x).fault = r.fault := id rfl
theorem R_lnum_num (r : Rst) (x : Int64) : (r.s_lnum x).num = r.num := id rfl
theorem R_lnum_words (r : Rst) (x : Int64) : (r.s_lnum x).words = r.words := id rfl
theorem R_lnum_keeps (r : Rst) (x : Int64) : (r.s_lnum x).keeps = r.keeps := id rfl
theorem R_lnum_dnow (r : Rst) (x : Int64) : (r.s_lnum x).dnow = r.dnow := id rfl
theorem R_lnum_last (r : Rst) (x : Int64) : (r.s_lnum x).last = r.last := id rfl
theorem R_lnum_lnum (r : Rst) (x : Int64) : (r.s_lnum x).lnum = x := id rfl
theorem R_lnum_kinds (r : Rst) (x : Int64) : (r.s_lnum x).kinds = r.kinds := id rfl
theorem R_lnum_parents (r : Rst) (x : Int64) : (r.s_lnum x).parents = r.parents := id rfl
theorem R_lnum_tsz (r : Rst) (x : Int64) : (r.s_lnum x).tsz = r.tsz := id rfl
theorem R_lnum_chars (r : Rst) (x : Int64) : (r.s_lnum x).chars = r.chars := id rfl
theorem R_lnum_kfrom (r : Rst) (x : Int64) : (r.s_lnum x).kfrom = r.kfrom := id rfl
theorem R_lnum_ksz (r : Rst) (x : Int64) : (r.s_lnum x).ksz = r.ksz := id rfl
theorem R_lnum_kept (r : Rst) (x : Int64) : (r.s_lnum x).kept = r.kept := id rfl
theorem R_lnum_opn (r : Rst) (x : Int64) : (r.s_lnum x).opn = r.opn := id rfl
theorem R_lnum_okind (r : Rst) (x : Int64) : (r.s_lnum x).okind = r.okind := id rfl
theorem R_lnum_nums (r : Rst) (x : Int64) : (r.s_lnum x).nums = r.nums := id rfl
theorem R_kinds_version (r : Rst) (x : (Nat → Int32)) : (r.s_kinds x).version = r.version := id rfl
theorem R_kinds_found (r : Rst) (x : (Nat → Int32)) : (r.s_kinds x).found = r.found := id rfl
theorem R_kinds_fault (r : Rst) (x : (Nat → Int32)) : (r.s_kinds x).fault = r.fault := id rfl
theorem R_kinds_num (r : Rst) (x : (Nat → Int32)) : (r.s_kinds x).num = r.num := id rfl
theorem R_kinds_words (r : Rst) (x : (Nat → Int32)) : (r.s_kinds x).words = r.words := id rfl
theorem R_kinds_keeps (r : Rst) (x : (Nat → Int32)) : (r.s_kinds x).keeps = r.keeps := id rfl
theorem R_kinds_dnow (r : Rst) (x : (Nat → Int32)) : (r.s_kinds x).dnow = r.dnow := id rfl
theorem R_kinds_last (r : Rst) (x : (Nat → Int32)) : (r.s_kinds x).last = r.last := id rfl
theorem R_kinds_lnum (r : Rst) (x : (Nat → Int32)) : (r.s_kinds x).lnum = r.lnum := id rfl
theorem R_kinds_kinds (r : Rst) (x : (Nat → Int32)) : (r.s_kinds x).kinds = x := id rfl
theorem R_kinds_parents (r : Rst) (x : (Nat → Int32)) : (r.s_kinds x).parents = r.parents := id rfl
theorem R_kinds_tsz (r : Rst) (x : (Nat → Int32)) : (r.s_kinds x).tsz = r.tsz := id rfl
theorem R_kinds_chars (r : Rst) (x : (Nat → Int32)) : (r.s_kinds x).chars = r.chars := id rfl
theorem R_kinds_kfrom (r : Rst) (x : (Nat → Int32)) : (r.s_kinds x).kfrom = r.kfrom := id rfl
theorem R_kinds_ksz (r : Rst) (x : (Nat → Int32)) : (r.s_kinds x).ksz = r.ksz := id rfl
theorem R_kinds_kept (r : Rst) (x : (Nat → Int32)) : (r.s_kinds x).kept = r.kept := id rfl
theorem R_kinds_opn (r : Rst) (x : (Nat → Int32)) : (r.s_kinds x).opn = r.opn := id rfl
theorem R_kinds_okind (r : Rst) (x : (Nat → Int32)) : (r.s_kinds x).okind = r.okind := id rfl
theorem R_kinds_nums (r : Rst) (x : (Nat → Int32)) : (r.s_kinds x).nums = r.nums := id rfl
theorem R_parents_version (r : Rst) (x : (Nat → Int32)) : (r.s_parents x).version = r.version := id rfl
theorem R_parents_found (r : Rst) (x : (Nat → Int32)) : (r.s_parents x).found = r.found := id rfl
theorem R_parents_fault (r : Rst) (x : (Nat → Int32)) : (r.s_parents x).fault = r.fault := id rfl
theorem R_parents_num (r : Rst) (x : (Nat → Int32)) : (r.s_parents x).num = r.num := id rfl
theorem R_parents_words (r : Rst) (x : (Nat → Int32)) : (r.s_parents x).words = r.words := id rfl
theorem R_parents_keeps (r : Rst) (x : (Nat → Int32)) : (r.s_parents x).keeps = r.keeps := id rfl
theorem R_parents_dnow (r : Rst) (x : (Nat → Int32)) : (r.s_parents x).dnow = r.dnow := id rfl
theorem R_parents_last (r : Rst) (x : (Nat → Int32)) : (r.s_parents x).last = r.last := id rfl
theorem R_parents_lnum (r : Rst) (x : (Nat → Int32)) : (r.s_parents x).lnum = r.lnum := id rfl
theorem R_parents_kinds (r : Rst) (x : (Nat → Int32)) : (r.s_parents x).kinds = r.kinds := id rfl
theorem R_parents_parents (r : Rst) (x : (Nat → Int32)) : (r.s_parents x).parents = x := id rfl
theorem R_parents_tsz (r : Rst) (x : (Nat → Int32)) : (r.s_parents x).tsz = r.tsz := id rfl
theorem R_parents_chars (r : Rst) (x : (Nat → Int32)) : (r.s_parents x).chars = r.chars := id rfl
theorem R_parents_kfrom (r : Rst) (x : (Nat → Int32)) : (r.s_parents x).kfrom = r.kfrom := id rfl
theorem R_parents_ksz (r : Rst) (x : (Nat → Int32)) : (r.s_parents x).ksz = r.ksz := id rfl
theorem R_parents_kept (r : Rst) (x : (Nat → Int32)) : (r.s_parents x).kept = r.kept := id rfl
theorem R_parents_opn (r : Rst) (x : (Nat → Int32)) : (r.s_parents x).opn = r.opn := id rfl
theorem R_parents_okind (r : Rst) (x : (Nat → Int32)) : (r.s_parents x).okind = r.okind := id rfl
theorem R_parents_nums (r : Rst) (x : (Nat → Int32)) : (r.s_parents x).nums = r.nums := id rfl
theorem R_tsz_version (r : Rst) (x : (Nat → Int32)) : (r.s_tsz x).version = r.version := id rfl
theorem R_tsz_found (r : Rst) (x : (Nat → Int32)) : (r.s_tsz x).found = r.found := id rfl
theorem R_tsz_fault (r : Rst) (x : (Nat → Int32)) : (r.s_tsz x).fault = r.fault := id rfl
theorem R_tsz_num (r : Rst) (x : (Nat → Int32)) : (r.s_tsz x).num = r.num := id rfl
theorem R_tsz_words (r : Rst) (x : (Nat → Int32)) : (r.s_tsz x).words = r.words := id rfl
theorem R_tsz_keeps (r : Rst) (x : (Nat → Int32)) : (r.s_tsz x).keeps = r.keeps := id rfl
theorem R_tsz_dnow (r : Rst) (x : (Nat → Int32)) : (r.s_tsz x).dnow = r.dnow := id rfl
theorem R_tsz_last (r : Rst) (x : (Nat → Int32)) : (r.s_tsz x).last = r.last := id rfl
theorem R_tsz_lnum (r : Rst) (x : (Nat → Int32)) : (r.s_tsz x).lnum = r.lnum := id rfl
theorem R_tsz_kinds (r : Rst) (x : (Nat → Int32)) : (r.s_tsz x).kinds = r.kinds := id rfl
theorem R_tsz_parents (r : Rst) (x : (Nat → Int32)) : (r.s_tsz x).parents = r.parents := id rfl
theorem R_tsz_tsz (r : Rst) (x : (Nat → Int32)) : (r.s_tsz x).tsz = x := id rfl
theorem R_tsz_chars (r : Rst) (x : (Nat → Int32)) : (r.s_tsz x).chars = r.chars := id rfl
theorem R_tsz_kfrom (r : Rst) (x : (Nat → Int32)) : (r.s_tsz x).kfrom = r.kfrom := id rfl
theorem R_tsz_ksz (r : Rst) (x : (Nat → Int32)) : (r.s_tsz x).ksz = r.ksz := id rfl
theorem R_tsz_kept (r : Rst) (x : (Nat → Int32)) : (r.s_tsz x).kept = r.kept := id rfl
theorem R_tsz_opn (r : Rst) (x : (Nat → Int32)) : (r.s_tsz x).opn = r.opn := id rfl
theorem R_tsz_okind (r : Rst) (x : (Nat → Int32)) : (r.s_tsz x).okind = r.okind := id rfl
theorem R_tsz_nums (r : Rst) (x : (Nat → Int32)) : (r.s_tsz x).nums = r.nums := id rfl
theorem R_chars_version (r : Rst) (x : (Nat → Int32)) : (r.s_chars x).version = r.version := id rfl
theorem R_chars_found (r : Rst) (x : (Nat → Int32)) : (r.s_chars x).found = r.found := id rfl
theorem R_chars_fault (r : Rst) (x : (Nat → Int32)) : (r.s_chars x).fault = r.fault := id rfl
theorem R_chars_num (r : Rst) (x : (Nat → Int32)) : (r.s_chars x).num = r.num := id rfl
theorem R_chars_words (r : Rst) (x : (Nat → Int32)) : (r.s_chars x).words = r.words := id rfl
theorem R_chars_keeps (r : Rst) (x : (Nat → Int32)) : (r.s_chars x).keeps = r.keeps := id rfl
theorem R_chars_dnow (r : Rst) (x : (Nat → Int32)) : (r.s_chars x).dnow = r.dnow := id rfl
theorem R_chars_last (r : Rst) (x : (Nat → Int32)) : (r.s_chars x).last = r.last := id rfl
theorem R_chars_lnum (r : Rst) (x : (Nat → Int32)) : (r.s_chars x).lnum = r.lnum := id rfl
theorem R_chars_kinds (r : Rst) (x : (Nat → Int32)) : (r.s_chars x).kinds = r.kinds := id rfl
theorem R_chars_parents (r : Rst) (x : (Nat → Int32)) : (r.s_chars x).parents = r.parents := id rfl
theorem R_chars_tsz (r : Rst) (x : (Nat → Int32)) : (r.s_chars x).tsz = r.tsz := id rfl
theorem R_chars_chars (r : Rst) (x : (Nat → Int32)) : (r.s_chars x).chars = x := id rfl
theorem R_chars_kfrom (r : Rst) (x : (Nat → Int32)) : (r.s_chars x).kfrom = r.kfrom := id rfl
theorem R_chars_ksz (r : Rst) (x : (Nat → Int32)) : (r.s_chars x).ksz = r.ksz := id rfl
theorem R_chars_kept (r : Rst) (x : (Nat → Int32)) : (r.s_chars x).kept = r.kept := id rfl
theorem R_chars_opn (r : Rst) (x : (Nat → Int32)) : (r.s_chars x).opn = r.opn := id rfl
theorem R_chars_okind (r : Rst) (x : (Nat → Int32)) : (r.s_chars x).okind = r.okind := id rfl
theorem R_chars_nums (r : Rst) (x : (Nat → Int32)) : (r.s_chars x).nums = r.nums := id rfl
theorem R_kfrom_version (r : Rst) (x : (Nat → Int32)) : (r.s_kfrom x).version = r.version := id rfl
theorem R_kfrom_found (r : Rst) (x : (Nat → Int32)) : (r.s_kfrom x).found = r.found := id rfl
theorem R_kfrom_fault (r : Rst) (x : (Nat → Int32)) : (r.s_kfrom x).fault = r.fault := id rfl
theorem R_kfrom_num (r : Rst) (x : (Nat → Int32)) : (r.s_kfrom x).num = r.num := id rfl
theorem R_kfrom_words (r : Rst) (x : (Nat → Int32)) : (r.s_kfrom x).words = r.words := id rfl
theorem R_kfrom_keeps (r : Rst) (x : (Nat → Int32)) : (r.s_kfrom x).keeps = r.keeps := id rfl
theorem R_kfrom_dnow (r : Rst) (x : (Nat → Int32)) : (r.s_kfrom x).dnow = r.dnow := id rfl
theorem R_kfrom_last (r : Rst) (x : (Nat → Int32)) : (r.s_kfrom x).last = r.last := id rfl
theorem R_kfrom_lnum (r : Rst) (x : (Nat → Int32)) : (r.s_kfrom x).lnum = r.lnum := id rfl
theorem R_kfrom_kinds (r : Rst) (x : (Nat → Int32)) : (r.s_kfrom x).kinds = r.kinds := id rfl
theorem R_kfrom_parents (r : Rst) (x : (Nat → Int32)) : (r.s_kfrom x).parents = r.parents := id rfl
theorem R_kfrom_tsz (r : Rst) (x : (Nat → Int32)) : (r.s_kfrom x).tsz = r.tsz := id rfl
theorem R_kfrom_chars (r : Rst) (x : (Nat → Int32)) : (r.s_kfrom x).chars = r.chars := id rfl
theorem R_kfrom_kfrom (r : Rst) (x : (Nat → Int32)) : (r.s_kfrom x).kfrom = x := id rfl
theorem R_kfrom_ksz (r : Rst) (x : (Nat → Int32)) : (r.s_kfrom x).ksz = r.ksz := id rfl
theorem R_kfrom_kept (r : Rst) (x : (Nat → Int32)) : (r.s_kfrom x).kept = r.kept := id rfl
theorem R_kfrom_opn (r : Rst) (x : (Nat → Int32)) : (r.s_kfrom x).opn = r.opn := id rfl
theorem R_kfrom_okind (r : Rst) (x : (Nat → Int32)) : (r.s_kfrom x).okind = r.okind := id rfl
theorem R_kfrom_nums (r : Rst) (x : (Nat → Int32)) : (r.s_kfrom x).nums = r.nums := id rfl
theorem R_ksz_version (r : Rst) (x : (Nat → Int32)) : (r.s_ksz x).version = r.version := id rfl
theorem R_ksz_found (r : Rst) (x : (Nat → Int32)) : (r.s_ksz x).found = r.found := id rfl
theorem R_ksz_fault (r : Rst) (x : (Nat → Int32)) : (r.s_ksz x).fault = r.fault := id rfl
theorem R_ksz_num (r : Rst) (x : (Nat → Int32)) : (r.s_ksz x).num = r.num := id rfl
theorem R_ksz_words (r : Rst) (x : (Nat → Int32)) : (r.s_ksz x).words = r.words := id rfl
theorem R_ksz_keeps (r : Rst) (x : (Nat → Int32)) : (r.s_ksz x).keeps = r.keeps := id rfl
theorem R_ksz_dnow (r : Rst) (x : (Nat → Int32)) : (r.s_ksz x).dnow = r.dnow := id rfl
theorem R_ksz_last (r : Rst) (x : (Nat → Int32)) : (r.s_ksz x).last = r.last := id rfl
theorem R_ksz_lnum (r : Rst) (x : (Nat → Int32)) : (r.s_ksz x).lnum = r.lnum := id rfl
theorem R_ksz_kinds (r : Rst) (x : (Nat → Int32)) : (r.s_ksz x).kinds = r.kinds := id rfl
theorem R_ksz_parents (r : Rst) (x : (Nat → Int32)) : (r.s_ksz x).parents = r.parents := id rfl
theorem R_ksz_tsz (r : Rst) (x : (Nat → Int32)) : (r.s_ksz x).tsz = r.tsz := id rfl
theorem R_ksz_chars (r : Rst) (x : (Nat → Int32)) : (r.s_ksz x).chars = r.chars := id rfl
theorem R_ksz_kfrom (r : Rst) (x : (Nat → Int32)) : (r.s_ksz x).kfrom = r.kfrom := id rfl
theorem R_ksz_ksz (r : Rst) (x : (Nat → Int32)) : (r.s_ksz x).ksz = x := id rfl
theorem R_ksz_kept (r : Rst) (x : (Nat → Int32)) : (r.s_ksz x).kept = r.kept := id rfl
theorem R_ksz_opn (r : Rst) (x : (Nat → Int32)) : (r.s_ksz x).opn = r.opn := id rfl
theorem R_ksz_okind (r : Rst) (x : (Nat → Int32)) : (r.s_ksz x).okind = r.okind := id rfl
theorem R_ksz_nums (r : Rst) (x : (Nat → Int32)) : (r.s_ksz x).nums = r.nums := id rfl
theorem R_kept_version (r : Rst) (x : (Nat → Int32)) : (r.s_kept x).version = r.version := id rfl
theorem R_kept_found (r : Rst) (x : (Nat → Int32)) : (r.s_kept x).found = r.found := id rfl
theorem R_kept_fault (r : Rst) (x : (Nat → Int32)) : (r.s_kept x).fault = r.fault := id rfl
theorem R_kept_num (r : Rst) (x : (Nat → Int32)) : (r.s_kept x).num = r.num := id rfl
theorem R_kept_words (r : Rst) (x : (Nat → Int32)) : (r.s_kept x).words = r.words := id rfl
theorem R_kept_keeps (r : Rst) (x : (Nat → Int32)) : (r.s_kept x).keeps = r.keeps := id rfl
theorem R_kept_dnow (r : Rst) (x : (Nat → Int32)) : (r.s_kept x).dnow = r.dnow := id rfl
theorem R_kept_last (r : Rst) (x : (Nat → Int32)) : (r.s_kept x).last = r.last := id rfl
theorem R_kept_lnum (r : Rst) (x : (Nat → Int32)) : (r.s_kept x).lnum = r.lnum := id rfl
theorem R_kept_kinds (r : Rst) (x : (Nat → Int32)) : (r.s_kept x).kinds = r.kinds := id rfl
theorem R_kept_parents (r : Rst) (x : (Nat → Int32)) : (r.s_kept x).parents = r.parents := id rfl
theorem R_kept_tsz (r : Rst) (x : (Nat → Int32)) : (r.s_kept x).tsz = r.tsz := id rfl
theorem R_kept_chars (r : Rst) (x : (Nat → Int32)) : (r.s_kept x).chars = r.chars := id rfl
theorem R_kept_kfrom (r : Rst) (x : (Nat → Int32)) : (r.s_kept x).kfrom = r.kfrom := id rfl
theorem R_kept_ksz (r : Rst) (x : (Nat → Int32)) : (r.s_kept x).ksz = r.ksz := id rfl
theorem R_kept_kept (r : Rst) (x : (Nat → Int32)) : (r.s_kept x).kept = x := id rfl
theorem R_kept_opn (r : Rst) (x : (Nat → Int32)) : (r.s_kept x).opn = r.opn := id rfl
theorem R_kept_okind (r : Rst) (x : (Nat → Int32)) : (r.s_kept x).okind = r.okind := id rfl
theorem R_kept_nums (r : Rst) (x : (Nat → Int32)) : (r.s_kept x).nums = r.nums := id rfl
theorem R_opn_version (r : Rst) (x : (Nat → Int32)) : (r.s_opn x).version = r.version := id rfl
theorem R_opn_found (r : Rst) (x : (Nat → Int32)) : (r.s_opn x).found = r.found := id rfl
theorem R_opn_fault (r : Rst) (x : (Nat → Int32)) : (r.s_opn x).fault = r.fault := id rfl
theorem R_opn_num (r : Rst) (x : (Nat → Int32)) : (r.s_opn x).num = r.num := id rfl
theorem R_opn_words (r : Rst) (x : (Nat → Int32)) : (r.s_opn x).words = r.words := id rfl
theorem R_opn_keeps (r : Rst) (x : (Nat → Int32)) : (r.s_opn x).keeps = r.keeps := id rfl
theorem R_opn_dnow (r : Rst) (x : (Nat → Int32)) : (r.s_opn x).dnow = r.dnow := id rfl
theorem R_opn_last (r : Rst) (x : (Nat → Int32)) : (r.s_opn x).last = r.last := id rfl
theorem R_opn_lnum (r : Rst) (x : (Nat → Int32)) : (r.s_opn x).lnum = r.lnum := id rfl
theorem R_opn_kinds (r : Rst) (x : (Nat → Int32)) : (r.s_opn x).kinds = r.kinds := id rfl
theorem R_opn_parents (r : Rst) (x : (Nat → Int32)) : (r.s_opn x).parents = r.parents := id rfl
theorem R_opn_tsz (r : Rst) (x : (Nat → Int32)) : (r.s_opn x).tsz = r.tsz := id rfl
theorem R_opn_chars (r : Rst) (x : (Nat → Int32)) : (r.s_opn x).chars = r.chars := id rfl
theorem R_opn_kfrom (r : Rst) (x : (Nat → Int32)) : (r.s_opn x).kfrom = r.kfrom := id rfl
theorem R_opn_ksz (r : Rst) (x : (Nat → Int32)) : (r.s_opn x).ksz = r.ksz := id rfl
theorem R_opn_kept (r : Rst) (x : (Nat → Int32)) : (r.s_opn x).kept = r.kept := id rfl
theorem R_opn_opn (r : Rst) (x : (Nat → Int32)) : (r.s_opn x).opn = x := id rfl
theorem R_opn_okind (r : Rst) (x : (Nat → Int32)) : (r.s_opn x).okind = r.okind := id rfl
theorem R_opn_nums (r : Rst) (x : (Nat → Int32)) : (r.s_opn x).nums = r.nums := id rfl
theorem R_okind_version (r : Rst) (x : (Nat → Int32)) : (r.s_okind x).version = r.version := id rfl
theorem R_okind_found (r : Rst) (x : (Nat → Int32)) : (r.s_okind x).found = r.found := id rfl
theorem R_okind_fault (r : Rst) (x : (Nat → Int32)) : (r.s_okind x).fault = r.fault := id rfl
theorem R_okind_num (r : Rst) (x : (Nat → Int32)) : (r.s_okind x).num = r.num := id rfl
theorem R_okind_words (r : Rst) (x : (Nat → Int32)) : (r.s_okind x).words = r.words := id rfl
theorem R_okind_keeps (r : Rst) (x : (Nat → Int32)) : (r.s_okind x).keeps = r.keeps := id rfl
theorem R_okind_dnow (r : Rst) (x : (Nat → Int32)) : (r.s_okind x).dnow = r.dnow := id rfl
theorem R_okind_last (r : Rst) (x : (Nat → Int32)) : (r.s_okind x).last = r.last := id rfl
theorem R_okind_lnum (r : Rst) (x : (Nat → Int32)) : (r.s_okind x).lnum = r.lnum := id rfl
theorem R_okind_kinds (r : Rst) (x : (Nat → Int32)) : (r.s_okind x).kinds = r.kinds := id rfl
theorem R_okind_parents (r : Rst) (x : (Nat → Int32)) : (r.s_okind x).parents = r.parents := id rfl
theorem R_okind_tsz (r : Rst) (x : (Nat → Int32)) : (r.s_okind x).tsz = r.tsz := id rfl
theorem R_okind_chars (r : Rst) (x : (Nat → Int32)) : (r.s_okind x).chars = r.chars := id rfl
theorem R_okind_kfrom (r : Rst) (x : (Nat → Int32)) : (r.s_okind x).kfrom = r.kfrom := id rfl
theorem R_okind_ksz (r : Rst) (x : (Nat → Int32)) : (r.s_okind x).ksz = r.ksz := id rfl
theorem R_okind_kept (r : Rst) (x : (Nat → Int32)) : (r.s_okind x).kept = r.kept := id rfl
theorem R_okind_opn (r : Rst) (x : (Nat → Int32)) : (r.s_okind x).opn = r.opn := id rfl
theorem R_okind_okind (r : Rst) (x : (Nat → Int32)) : (r.s_okind x).okind = x := id rfl
theorem R_okind_nums (r : Rst) (x : (Nat → Int32)) : (r.s_okind x).nums = r.nums := id rfl
theorem R_nums_version (r : Rst) (x : (Nat → Int64)) : (r.s_nums x).version = r.version := id rfl
theorem R_nums_found (r : Rst) (x : (Nat → Int64)) : (r.s_nums x).found = r.found := id rfl
theorem R_nums_fault (r : Rst) (x : (Nat → Int64)) : (r.s_nums x).fault = r.fault := id rfl
theorem R_nums_num (r : Rst) (x : (Nat → Int64)) : (r.s_nums x).num = r.num := id rfl
theorem R_nums_words (r : Rst) (x : (Nat → Int64)) : (r.s_nums x).words = r.words := id rfl
theorem R_nums_keeps (r : Rst) (x : (Nat → Int64)) : (r.s_nums x).keeps = r.keeps := id rfl
theorem R_nums_dnow (r : Rst) (x : (Nat → Int64)) : (r.s_nums x).dnow = r.dnow := id rfl
theorem R_nums_last (r : Rst) (x : (Nat → Int64)) : (r.s_nums x).last = r.last := id rfl
theorem R_nums_lnum (r : Rst) (x : (Nat → Int64)) : (r.s_nums x).lnum = r.lnum := id rfl
theorem R_nums_kinds (r : Rst) (x : (Nat → Int64)) : (r.s_nums x).kinds = r.kinds := id rfl
theorem R_nums_parents (r : Rst) (x : (Nat → Int64)) : (r.s_nums x).parents = r.parents := id rfl
theorem R_nums_tsz (r : Rst) (x : (Nat → Int64)) : (r.s_nums x).tsz = r.tsz := id rfl
theorem R_nums_chars (r : Rst) (x : (Nat → Int64)) : (r.s_nums x).chars = r.chars := id rfl
theorem R_nums_kfrom (r : Rst) (x : (Nat → Int64)) : (r.s_nums x).kfrom = r.kfrom := id rfl
theorem R_nums_ksz (r : Rst) (x : (Nat → Int64)) : (r.s_nums x).ksz = r.ksz := id rfl
theorem R_nums_kept (r : Rst) (x : (Nat → Int64)) : (r.s_nums x).kept = r.kept := id rfl
theorem R_nums_opn (r : Rst) (x : (Nat → Int64)) : (r.s_nums x).opn = r.opn := id rfl
theorem R_nums_okind (r : Rst) (x : (Nat → Int64)) : (r.s_nums x).okind = r.okind := id rfl
theorem R_nums_nums (r : Rst) (x : (Nat → Int64)) : (r.s_nums x).nums = x := id rfl
def wW (u : Md) (r : Rst) : Md := (fun k => if k = 16 then r.version else if k = 17 then zI r.found else if k = 18 then r.fault else if k = 20 then zI r.num else if k = 21 then zI r.words else if k = 22 then zI r.keeps else if k = 29 then zI r.dnow else if k = 30 then r.last else u.1 k, r.lnum, fun k => if k = 5 then r.kinds else if k = 6 then r.parents else if k = 8 then r.tsz else if k = 9 then r.chars else if k = 10 then r.kfrom else if k = 11 then r.ksz else if k = 12 then r.kept else if k = 23 then r.opn else if k = 24 then r.okind else u.2.2.1 k, r.nums)
theorem wW_16 (u : Md) (r : Rst) : gi (wW u r) 16 = r.version := id rfl
set_option maxRecDepth 100000 in
set_option maxHeartbeats 4000000 in
theorem wW_s16 (u : Md) (r : Rst) (x : Int32) : si (wW u r) 16 x = wW u (r.s_version x) := by
  refine Prod.ext (funext fun k => ?_) rfl
  by_cases h : k = 16 <;> simp [si, wW, upd, h, Rst.s_version, Rst.version, Rst.found, Rst.fault, Rst.num, Rst.words, Rst.keeps, Rst.dnow, Rst.last, Rst.lnum, Rst.kinds, Rst.parents, Rst.tsz, Rst.chars, Rst.kfrom, Rst.ksz, Rst.kept, Rst.opn, Rst.okind, Rst.nums]
theorem wW_17 (u : Md) (r : Rst) : gi (wW u r) 17 = zI r.found := id rfl
set_option maxRecDepth 100000 in
set_option maxHeartbeats 4000000 in
theorem wW_s17 (u : Md) (r : Rst) (x : Nat) : si (wW u r) 17 (zI x) = wW u (r.s_found x) := by
  refine Prod.ext (funext fun k => ?_) rfl
  by_cases h : k = 17 <;> simp [si, wW, upd, h, Rst.s_found, Rst.version, Rst.found, Rst.fault, Rst.num, Rst.words, Rst.keeps, Rst.dnow, Rst.last, Rst.lnum, Rst.kinds, Rst.parents, Rst.tsz, Rst.chars, Rst.kfrom, Rst.ksz, Rst.kept, Rst.opn, Rst.okind, Rst.nums]
theorem wW_18 (u : Md) (r : Rst) : gi (wW u r) 18 = r.fault := id rfl
set_option maxRecDepth 100000 in
set_option maxHeartbeats 4000000 in
theorem wW_s18 (u : Md) (r : Rst) (x : Int32) : si (wW u r) 18 x = wW u (r.s_fault x) := by
  refine Prod.ext (funext fun k => ?_) rfl
  by_cases h : k = 18 <;> simp [si, wW, upd, h, Rst.s_fault, Rst.version, Rst.found, Rst.fault, Rst.num, Rst.words, Rst.keeps, Rst.dnow, Rst.last, Rst.lnum, Rst.kinds, Rst.parents, Rst.tsz, Rst.chars, Rst.kfrom, Rst.ksz, Rst.kept, Rst.opn, Rst.okind, Rst.nums]
theorem wW_20 (u : Md) (r : Rst) : gi (wW u r) 20 = zI r.num := id rfl
set_option maxRecDepth 100000 in
set_option maxHeartbeats 4000000 in
theorem wW_s20 (u : Md) (r : Rst) (x : Nat) : si (wW u r) 20 (zI x) = wW u (r.s_num x) := by
  refine Prod.ext (funext fun k => ?_) rfl
  by_cases h : k = 20 <;> simp [si, wW, upd, h, Rst.s_num, Rst.version, Rst.found, Rst.fault, Rst.num, Rst.words, Rst.keeps, Rst.dnow, Rst.last, Rst.lnum, Rst.kinds, Rst.parents, Rst.tsz, Rst.chars, Rst.kfrom, Rst.ksz, Rst.kept, Rst.opn, Rst.okind, Rst.nums]
theorem wW_21 (u : Md) (r : Rst) : gi (wW u r) 21 = zI r.words := id rfl
set_option maxRecDepth 100000 in
set_option maxHeartbeats 4000000 in
theorem wW_s21 (u : Md) (r : Rst) (x : Nat) : si (wW u r) 21 (zI x) = wW u (r.s_words x) := by
  refine Prod.ext (funext fun k => ?_) rfl
  by_cases h : k = 21 <;> simp [si, wW, upd, h, Rst.s_words, Rst.version, Rst.found, Rst.fault, Rst.num, Rst.words, Rst.keeps, Rst.dnow, Rst.last, Rst.lnum, Rst.kinds, Rst.parents, Rst.tsz, Rst.chars, Rst.kfrom, Rst.ksz, Rst.kept, Rst.opn, Rst.okind, Rst.nums]
theorem wW_22 (u : Md) (r : Rst) : gi (wW u r) 22 = zI r.keeps := id rfl
set_option maxRecDepth 100000 in
set_option maxHeartbeats 4000000 in
theorem wW_s22 (u : Md) (r : Rst) (x : Nat) : si (wW u r) 22 (zI x) = wW u (r.s_keeps x) := by
  refine Prod.ext (funext fun k => ?_) rfl
  by_cases h : k = 22 <;> simp [si, wW, upd, h, Rst.s_keeps, Rst.version, Rst.found, Rst.fault, Rst.num, Rst.words, Rst.keeps, Rst.dnow, Rst.last, Rst.lnum, Rst.kinds, Rst.parents, Rst.tsz, Rst.chars, Rst.kfrom, Rst.ksz, Rst.kept, Rst.opn, Rst.okind, Rst.nums]
theorem wW_29 (u : Md) (r : Rst) : gi (wW u r) 29 = zI r.dnow := id rfl
set_option maxRecDepth 100000 in
set_option maxHeartbeats 4000000 in
theorem wW_s29 (u : Md) (r : Rst) (x : Nat) : si (wW u r) 29 (zI x) = wW u (r.s_dnow x) := by
  refine Prod.ext (funext fun k => ?_) rfl
  by_cases h : k = 29 <;> simp [si, wW, upd, h, Rst.s_dnow, Rst.version, Rst.found, Rst.fault, Rst.num, Rst.words, Rst.keeps, Rst.dnow, Rst.last, Rst.lnum, Rst.kinds, Rst.parents, Rst.tsz, Rst.chars, Rst.kfrom, Rst.ksz, Rst.kept, Rst.opn, Rst.okind, Rst.nums]
theorem wW_30 (u : Md) (r : Rst) : gi (wW u r) 30 = r.last := id rfl
set_option maxRecDepth 100000 in
set_option maxHeartbeats 4000000 in
theorem wW_s30 (u : Md) (r : Rst) (x : Int32) : si (wW u r) 30 x = wW u (r.s_last x) := by
  refine Prod.ext (funext fun k => ?_) rfl
  by_cases h : k = 30 <;> simp [si, wW, upd, h, Rst.s_last, Rst.version, Rst.found, Rst.fault, Rst.num, Rst.words, Rst.keeps, Rst.dnow, Rst.last, Rst.lnum, Rst.kinds, Rst.parents, Rst.tsz, Rst.chars, Rst.kfrom, Rst.ksz, Rst.kept, Rst.opn, Rst.okind, Rst.nums]
theorem wW_1 (u : Md) (r : Rst) : gi (wW u r) 1 = gi u 1 := id rfl
theorem wW_3 (u : Md) (r : Rst) : gi (wW u r) 3 = gi u 3 := id rfl
theorem wW_15 (u : Md) (r : Rst) : gi (wW u r) 15 = gi u 15 := id rfl
theorem wW_a5 (u : Md) (r : Rst) : ga (wW u r) 5 = r.kinds := id rfl
set_option maxRecDepth 100000 in
set_option maxHeartbeats 4000000 in
theorem wW_sa5 (u : Md) (r : Rst) (x : Nat → Int32) : sa (wW u r) 5 x = wW u (r.s_kinds x) := by
  refine Prod.ext rfl (Prod.ext rfl (Prod.ext (funext fun k => ?_) rfl))
  by_cases h : k = 5 <;> simp [sa, wW, va_up, h, Rst.s_kinds, Rst.version, Rst.found, Rst.fault, Rst.num, Rst.words, Rst.keeps, Rst.dnow, Rst.last, Rst.lnum, Rst.kinds, Rst.parents, Rst.tsz, Rst.chars, Rst.kfrom, Rst.ksz, Rst.kept, Rst.opn, Rst.okind, Rst.nums]
theorem wW_a6 (u : Md) (r : Rst) : ga (wW u r) 6 = r.parents := id rfl
set_option maxRecDepth 100000 in
set_option maxHeartbeats 4000000 in
theorem wW_sa6 (u : Md) (r : Rst) (x : Nat → Int32) : sa (wW u r) 6 x = wW u (r.s_parents x) := by
  refine Prod.ext rfl (Prod.ext rfl (Prod.ext (funext fun k => ?_) rfl))
  by_cases h : k = 6 <;> simp [sa, wW, va_up, h, Rst.s_parents, Rst.version, Rst.found, Rst.fault, Rst.num, Rst.words, Rst.keeps, Rst.dnow, Rst.last, Rst.lnum, Rst.kinds, Rst.parents, Rst.tsz, Rst.chars, Rst.kfrom, Rst.ksz, Rst.kept, Rst.opn, Rst.okind, Rst.nums]
theorem wW_a8 (u : Md) (r : Rst) : ga (wW u r) 8 = r.tsz := id rfl
set_option maxRecDepth 100000 in
set_option maxHeartbeats 4000000 in
theorem wW_sa8 (u : Md) (r : Rst) (x : Nat → Int32) : sa (wW u r) 8 x = wW u (r.s_tsz x) := by
  refine Prod.ext rfl (Prod.ext rfl (Prod.ext (funext fun k => ?_) rfl))
  by_cases h : k = 8 <;> simp [sa, wW, va_up, h, Rst.s_tsz, Rst.version, Rst.found, Rst.fault, Rst.num, Rst.words, Rst.keeps, Rst.dnow, Rst.last, Rst.lnum, Rst.kinds, Rst.parents, Rst.tsz, Rst.chars, Rst.kfrom, Rst.ksz, Rst.kept, Rst.opn, Rst.okind, Rst.nums]
theorem wW_a9 (u : Md) (r : Rst) : ga (wW u r) 9 = r.chars := id rfl
set_option maxRecDepth 100000 in
set_option maxHeartbeats 4000000 in
theorem wW_sa9 (u : Md) (r : Rst) (x : Nat → Int32) : sa (wW u r) 9 x = wW u (r.s_chars x) := by
  refine Prod.ext rfl (Prod.ext rfl (Prod.ext (funext fun k => ?_) rfl))
  by_cases h : k = 9 <;> simp [sa, wW, va_up, h, Rst.s_chars, Rst.version, Rst.found, Rst.fault, Rst.num, Rst.words, Rst.keeps, Rst.dnow, Rst.last, Rst.lnum, Rst.kinds, Rst.parents, Rst.tsz, Rst.chars, Rst.kfrom, Rst.ksz, Rst.kept, Rst.opn, Rst.okind, Rst.nums]
theorem wW_a10 (u : Md) (r : Rst) : ga (wW u r) 10 = r.kfrom := id rfl
set_option maxRecDepth 100000 in
set_option maxHeartbeats 4000000 in
theorem wW_sa10 (u : Md) (r : Rst) (x : Nat → Int32) : sa (wW u r) 10 x = wW u (r.s_kfrom x) := by
  refine Prod.ext rfl (Prod.ext rfl (Prod.ext (funext fun k => ?_) rfl))
  by_cases h : k = 10 <;> simp [sa, wW, va_up, h, Rst.s_kfrom, Rst.version, Rst.found, Rst.fault, Rst.num, Rst.words, Rst.keeps, Rst.dnow, Rst.last, Rst.lnum, Rst.kinds, Rst.parents, Rst.tsz, Rst.chars, Rst.kfrom, Rst.ksz, Rst.kept, Rst.opn, Rst.okind, Rst.nums]
theorem wW_a11 (u : Md) (r : Rst) : ga (wW u r) 11 = r.ksz := id rfl
set_option maxRecDepth 100000 in
set_option maxHeartbeats 4000000 in
theorem wW_sa11 (u : Md) (r : Rst) (x : Nat → Int32) : sa (wW u r) 11 x = wW u (r.s_ksz x) := by
  refine Prod.ext rfl (Prod.ext rfl (Prod.ext (funext fun k => ?_) rfl))
  by_cases h : k = 11 <;> simp [sa, wW, va_up, h, Rst.s_ksz, Rst.version, Rst.found, Rst.fault, Rst.num, Rst.words, Rst.keeps, Rst.dnow, Rst.last, Rst.lnum, Rst.kinds, Rst.parents, Rst.tsz, Rst.chars, Rst.kfrom, Rst.ksz, Rst.kept, Rst.opn, Rst.okind, Rst.nums]
theorem wW_a12 (u : Md) (r : Rst) : ga (wW u r) 12 = r.kept := id rfl
set_option maxRecDepth 100000 in
set_option maxHeartbeats 4000000 in
theorem wW_sa12 (u : Md) (r : Rst) (x : Nat → Int32) : sa (wW u r) 12 x = wW u (r.s_kept x) := by
  refine Prod.ext rfl (Prod.ext rfl (Prod.ext (funext fun k => ?_) rfl))
  by_cases h : k = 12 <;> simp [sa, wW, va_up, h, Rst.s_kept, Rst.version, Rst.found, Rst.fault, Rst.num, Rst.words, Rst.keeps, Rst.dnow, Rst.last, Rst.lnum, Rst.kinds, Rst.parents, Rst.tsz, Rst.chars, Rst.kfrom, Rst.ksz, Rst.kept, Rst.opn, Rst.okind, Rst.nums]
theorem wW_a23 (u : Md) (r : Rst) : ga (wW u r) 23 = r.opn := id rfl
set_option maxRecDepth 100000 in
set_option maxHeartbeats 4000000 in
theorem wW_sa23 (u : Md) (r : Rst) (x : Nat → Int32) : sa (wW u r) 23 x = wW u (r.s_opn x) := by
  refine Prod.ext rfl (Prod.ext rfl (Prod.ext (funext fun k => ?_) rfl))
  by_cases h : k = 23 <;> simp [sa, wW, va_up, h, Rst.s_opn, Rst.version, Rst.found, Rst.fault, Rst.num, Rst.words, Rst.keeps, Rst.dnow, Rst.last, Rst.lnum, Rst.kinds, Rst.parents, Rst.tsz, Rst.chars, Rst.kfrom, Rst.ksz, Rst.kept, Rst.opn, Rst.okind, Rst.nums]
theorem wW_a24 (u : Md) (r : Rst) : ga (wW u r) 24 = r.okind := id rfl
set_option maxRecDepth 100000 in
set_option maxHeartbeats 4000000 in
theorem wW_sa24 (u : Md) (r : Rst) (x : Nat → Int32) : sa (wW u r) 24 x = wW u (r.s_okind x) := by
  refine Prod.ext rfl (Prod.ext rfl (Prod.ext (funext fun k => ?_) rfl))
  by_cases h : k = 24 <;> simp [sa, wW, va_up, h, Rst.s_okind, Rst.version, Rst.found, Rst.fault, Rst.num, Rst.words, Rst.keeps, Rst.dnow, Rst.last, Rst.lnum, Rst.kinds, Rst.parents, Rst.tsz, Rst.chars, Rst.kfrom, Rst.ksz, Rst.kept, Rst.opn, Rst.okind, Rst.nums]
theorem wW_a2 (u : Md) (r : Rst) : ga (wW u r) 2 = ga u 2 := id rfl
theorem wW_n (u : Md) (r : Rst) : gn (wW u r) = r.nums := id rfl
theorem wW_sn (u : Md) (r : Rst) (x : Nat → Int64) : sn (wW u r) x = wW u (r.s_nums x) := id rfl
theorem wW_l (u : Md) (r : Rst) : gl (wW u r) = r.lnum := id rfl
theorem wW_sl (u : Md) (r : Rst) (x : Int64) : sl (wW u r) x = wW u (r.s_lnum x) := id rfl
abbrev Tst : Type := Nat × Nat × Nat × Int32 × (Nat → Int32) × (Nat → Int32) × (Nat → Int32) × (Nat → Int32) × (Nat → Int32) × (Nat → Int32) × (Nat → Int32) × (Nat → Int32) × (Nat → Int32) × (Nat → Int32) × (Nat → Int32) × (Nat → Int64)
def Tst.kc (r : Tst) : Nat := r.1
def Tst.s_kc (r : Tst) (x : Nat) : Tst := (x, r.2.1, r.2.2.1, r.2.2.2.1, r.2.2.2.2.1, r.2.2.2.2.2.1, r.2.2.2.2.2.2.1, r.2.2.2.2.2.2.2.1, r.2.2.2.2.2.2.2.2.1, r.2.2.2.2.2.2.2.2.2.1, r.2.2.2.2.2.2.2.2.2.2.1, r.2.2.2.2.2.2.2.2.2.2.2.1, r.2.2.2.2.2.2.2.2.2.2.2.2.1, r.2.2.2.2.2.2.2.2.2.2.2.2.2.1, r.2.2.2.2.2.2.2.2.2.2.2.2.2.2.1, r.2.2.2.2.2.2.2.2.2.2.2.2.2.2.2)
def Tst.count (r : Tst) : Nat := r.2.1
def Tst.s_count (r : Tst) (x : Nat) : Tst := (r.1, x, r.2.2.1, r.2.2.2.1, r.2.2.2.2.1, r.2.2.2.2.2.1, r.2.2.2.2.2.2.1, r.2.2.2.2.2.2.2.1, r.2.2.2.2.2.2.2.2.1, r.2.2.2.2.2.2.2.2.2.1, r.2.2.2.2.2.2.2.2.2.2.1, r.2.2.2.2.2.2.2.2.2.2.2.1, r.2.2.2.2.2.2.2.2.2.2.2.2.1, r.2.2.2.2.2.2.2.2.2.2.2.2.2.1, r.2.2.2.2.2.2.2.2.2.2.2.2.2.2.1, r.2.2.2.2.2.2.2.2.2.2.2.2.2.2.2)
def Tst.deepest (r : Tst) : Nat := r.2.2.1
def Tst.s_deepest (r : Tst) (x : Nat) : Tst := (r.1, r.2.1, x, r.2.2.2.1, r.2.2.2.2.1, r.2.2.2.2.2.1, r.2.2.2.2.2.2.1, r.2.2.2.2.2.2.2.1, r.2.2.2.2.2.2.2.2.1, r.2.2.2.2.2.2.2.2.2.1, r.2.2.2.2.2.2.2.2.2.2.1, r.2.2.2.2.2.2.2.2.2.2.2.1, r.2.2.2.2.2.2.2.2.2.2.2.2.1, r.2.2.2.2.2.2.2.2.2.2.2.2.2.1, r.2.2.2.2.2.2.2.2.2.2.2.2.2.2.1, r.2.2.2.2.2.2.2.2.2.2.2.2.2.2.2)
def Tst.version (r : Tst) : Int32 := r.2.2.2.1
def Tst.s_version (r : Tst) (x : Int32) : Tst := (r.1, r.2.1, r.2.2.1, x, r.2.2.2.2.1, r.2.2.2.2.2.1, r.2.2.2.2.2.2.1, r.2.2.2.2.2.2.2.1, r.2.2.2.2.2.2.2.2.1, r.2.2.2.2.2.2.2.2.2.1, r.2.2.2.2.2.2.2.2.2.2.1, r.2.2.2.2.2.2.2.2.2.2.2.1, r.2.2.2.2.2.2.2.2.2.2.2.2.1, r.2.2.2.2.2.2.2.2.2.2.2.2.2.1, r.2.2.2.2.2.2.2.2.2.2.2.2.2.2.1, r.2.2.2.2.2.2.2.2.2.2.2.2.2.2.2)
def Tst.kinds (r : Tst) : (Nat → Int32) := r.2.2.2.2.1
def Tst.s_kinds (r : Tst) (x : (Nat → Int32)) : Tst := (r.1, r.2.1, r.2.2.1, r.2.2.2.1, x, r.2.2.2.2.2.1, r.2.2.2.2.2.2.1, r.2.2.2.2.2.2.2.1, r.2.2.2.2.2.2.2.2.1, r.2.2.2.2.2.2.2.2.2.1, r.2.2.2.2.2.2.2.2.2.2.1, r.2.2.2.2.2.2.2.2.2.2.2.1, r.2.2.2.2.2.2.2.2.2.2.2.2.1, r.2.2.2.2.2.2.2.2.2.2.2.2.2.1, r.2.2.2.2.2.2.2.2.2.2.2.2.2.2.1, r.2.2.2.2.2.2.2.2.2.2.2.2.2.2.2)
def Tst.parents (r : Tst) : (Nat → Int32) := r.2.2.2.2.2.1
def Tst.s_parents (r : Tst) (x : (Nat → Int32)) : Tst := (r.1, r.2.1, r.2.2.1, r.2.2.2.1, r.2.2.2.2.1, x, r.2.2.2.2.2.2.1, r.2.2.2.2.2.2.2.1, r.2.2.2.2.2.2.2.2.1, r.2.2.2.2.2.2.2.2.2.1, r.2.2.2.2.2.2.2.2.2.2.1, r.2.2.2.2.2.2.2.2.2.2.2.1, r.2.2.2.2.2.2.2.2.2.2.2.2.1, r.2.2.2.2.2.2.2.2.2.2.2.2.2.1, r.2.2.2.2.2.2.2.2.2.2.2.2.2.2.1, r.2.2.2.2.2.2.2.2.2.2.2.2.2.2.2)
def Tst.depths (r : Tst) : (Nat → Int32) := r.2.2.2.2.2.2.1
def Tst.s_depths (r : Tst) (x : (Nat → Int32)) : Tst := (r.1, r.2.1, r.2.2.1, r.2.2.2.1, r.2.2.2.2.1, r.2.2.2.2.2.1, x, r.2.2.2.2.2.2.2.1, r.2.2.2.2.2.2.2.2.1, r.2.2.2.2.2.2.2.2.2.1, r.2.2.2.2.2.2.2.2.2.2.1, r.2.2.2.2.2.2.2.2.2.2.2.1, r.2.2.2.2.2.2.2.2.2.2.2.2.1, r.2.2.2.2.2.2.2.2.2.2.2.2.2.1, r.2.2.2.2.2.2.2.2.2.2.2.2.2.2.1, r.2.2.2.2.2.2.2.2.2.2.2.2.2.2.2)
def Tst.firsts (r : Tst) : (Nat → Int32) := r.2.2.2.2.2.2.2.1
def Tst.s_firsts (r : Tst) (x : (Nat → Int32)) : Tst := (r.1, r.2.1, r.2.2.1, r.2.2.2.1, r.2.2.2.2.1, r.2.2.2.2.2.1, r.2.2.2.2.2.2.1, x, r.2.2.2.2.2.2.2.2.1, r.2.2.2.2.2.2.2.2.2.1, r.2.2.2.2.2.2.2.2.2.2.1, r.2.2.2.2.2.2.2.2.2.2.2.1, r.2.2.2.2.2.2.2.2.2.2.2.2.1, r.2.2.2.2.2.2.2.2.2.2.2.2.2.1, r.2.2.2.2.2.2.2.2.2.2.2.2.2.2.1, r.2.2.2.2.2.2.2.2.2.2.2.2.2.2.2)
def Tst.lasts (r : Tst) : (Nat → Int32) := r.2.2.2.2.2.2.2.2.1
def Tst.s_lasts (r : Tst) (x : (Nat → Int32)) : Tst := (r.1, r.2.1, r.2.2.1, r.2.2.2.1, r.2.2.2.2.1, r.2.2.2.2.2.1, r.2.2.2.2.2.2.1, r.2.2.2.2.2.2.2.1, x, r.2.2.2.2.2.2.2.2.2.1, r.2.2.2.2.2.2.2.2.2.2.1, r.2.2.2.2.2.2.2.2.2.2.2.1, r.2.2.2.2.2.2.2.2.2.2.2.2.1, r.2.2.2.2.2.2.2.2.2.2.2.2.2.1, r.2.2.2.2.2.2.2.2.2.2.2.2.2.2.1, r.2.2.2.2.2.2.2.2.2.2.2.2.2.2.2)
def Tst.nexts (r : Tst) : (Nat → Int32) := r.2.2.2.2.2.2.2.2.2.1
def Tst.s_nexts (r : Tst) (x : (Nat → Int32)) : Tst := (r.1, r.2.1, r.2.2.1, r.2.2.2.1, r.2.2.2.2.1, r.2.2.2.2.2.1, r.2.2.2.2.2.2.1, r.2.2.2.2.2.2.2.1, r.2.2.2.2.2.2.2.2.1, x, r.2.2.2.2.2.2.2.2.2.2.1, r.2.2.2.2.2.2.2.2.2.2.2.1, r.2.2.2.2.2.2.2.2.2.2.2.2.1, r.2.2.2.2.2.2.2.2.2.2.2.2.2.1, r.2.2.2.2.2.2.2.2.2.2.2.2.2.2.1, r.2.2.2.2.2.2.2.2.2.2.2.2.2.2.2)
def Tst.tsz (r : Tst) : (Nat → Int32) := r.2.2.2.2.2.2.2.2.2.2.1
def Tst.s_tsz (r : Tst) (x : (Nat → Int32)) : Tst := (r.1, r.2.1, r.2.2.1, r.2.2.2.1, r.2.2.2.2.1, r.2.2.2.2.2.1, r.2.2.2.2.2.2.1, r.2.2.2.2.2.2.2.1, r.2.2.2.2.2.2.2.2.1, r.2.2.2.2.2.2.2.2.2.1, x, r.2.2.2.2.2.2.2.2.2.2.2.1, r.2.2.2.2.2.2.2.2.2.2.2.2.1, r.2.2.2.2.2.2.2.2.2.2.2.2.2.1, r.2.2.2.2.2.2.2.2.2.2.2.2.2.2.1, r.2.2.2.2.2.2.2.2.2.2.2.2.2.2.2)
def Tst.marks (r : Tst) : (Nat → Int32) := r.2.2.2.2.2.2.2.2.2.2.2.1
def Tst.s_marks (r : Tst) (x : (Nat → Int32)) : Tst := (r.1, r.2.1, r.2.2.1, r.2.2.2.1, r.2.2.2.2.1, r.2.2.2.2.2.1, r.2.2.2.2.2.2.1, r.2.2.2.2.2.2.2.1, r.2.2.2.2.2.2.2.2.1, r.2.2.2.2.2.2.2.2.2.1, r.2.2.2.2.2.2.2.2.2.2.1, x, r.2.2.2.2.2.2.2.2.2.2.2.2.1, r.2.2.2.2.2.2.2.2.2.2.2.2.2.1, r.2.2.2.2.2.2.2.2.2.2.2.2.2.2.1, r.2.2.2.2.2.2.2.2.2.2.2.2.2.2.2)
def Tst.kfrom (r : Tst) : (Nat → Int32) := r.2.2.2.2.2.2.2.2.2.2.2.2.1
def Tst.s_kfrom (r : Tst) (x : (Nat → Int32)) : Tst := (r.1, r.2.1, r.2.2.1, r.2.2.2.1, r.2.2.2.2.1, r.2.2.2.2.2.1, r.2.2.2.2.2.2.1, r.2.2.2.2.2.2.2.1, r.2.2.2.2.2.2.2.2.1, r.2.2.2.2.2.2.2.2.2.1, r.2.2.2.2.2.2.2.2.2.2.1, r.2.2.2.2.2.2.2.2.2.2.2.1, x, r.2.2.2.2.2.2.2.2.2.2.2.2.2.1, r.2.2.2.2.2.2.2.2.2.2.2.2.2.2.1, r.2.2.2.2.2.2.2.2.2.2.2.2.2.2.2)
def Tst.ksz (r : Tst) : (Nat → Int32) := r.2.2.2.2.2.2.2.2.2.2.2.2.2.1
def Tst.s_ksz (r : Tst) (x : (Nat → Int32)) : Tst := (r.1, r.2.1, r.2.2.1, r.2.2.2.1, r.2.2.2.2.1, r.2.2.2.2.2.1, r.2.2.2.2.2.2.1, r.2.2.2.2.2.2.2.1, r.2.2.2.2.2.2.2.2.1, r.2.2.2.2.2.2.2.2.2.1, r.2.2.2.2.2.2.2.2.2.2.1, r.2.2.2.2.2.2.2.2.2.2.2.1, r.2.2.2.2.2.2.2.2.2.2.2.2.1, x, r.2.2.2.2.2.2.2.2.2.2.2.2.2.2.1, r.2.2.2.2.2.2.2.2.2.2.2.2.2.2.2)
def Tst.kept (r : Tst) : (Nat → Int32) := r.2.2.2.2.2.2.2.2.2.2.2.2.2.2.1
def Tst.s_kept (r : Tst) (x : (Nat → Int32)) : Tst := (r.1, r.2.1, r.2.2.1, r.2.2.2.1, r.2.2.2.2.1, r.2.2.2.2.2.1, r.2.2.2.2.2.2.1, r.2.2.2.2.2.2.2.1, r.2.2.2.2.2.2.2.2.1, r.2.2.2.2.2.2.2.2.2.1, r.2.2.2.2.2.2.2.2.2.2.1, r.2.2.2.2.2.2.2.2.2.2.2.1, r.2.2.2.2.2.2.2.2.2.2.2.2.1, r.2.2.2.2.2.2.2.2.2.2.2.2.2.1, x, r.2.2.2.2.2.2.2.2.2.2.2.2.2.2.2)
def Tst.nums (r : Tst) : (Nat → Int64) := r.2.2.2.2.2.2.2.2.2.2.2.2.2.2.2
def Tst.s_nums (r : Tst) (x : (Nat → Int64)) : Tst := (r.1, r.2.1, r.2.2.1, r.2.2.2.1, r.2.2.2.2.1, r.2.2.2.2.2.1, r.2.2.2.2.2.2.1, r.2.2.2.2.2.2.2.1, r.2.2.2.2.2.2.2.2.1, r.2.2.2.2.2.2.2.2.2.1, r.2.2.2.2.2.2.2.2.2.2.1, r.2.2.2.2.2.2.2.2.2.2.2.1, r.2.2.2.2.2.2.2.2.2.2.2.2.1, r.2.2.2.2.2.2.2.2.2.2.2.2.2.1, r.2.2.2.2.2.2.2.2.2.2.2.2.2.2.1, x)
theorem T_kc_kc (r : Tst) (x : Nat) : (r.s_kc x).kc = x := id rfl
theorem T_kc_count (r : Tst) (x : Nat) : (r.s_kc x).count = r.count := id rfl
theorem T_kc_deepest (r : Tst) (x : Nat) : (r.s_kc x).deepest = r.deepest := id rfl
theorem T_kc_version (r : Tst) (x : Nat) : (r.s_kc x).version = r.version := id rfl
theorem T_kc_kinds (r : Tst) (x : Nat) : (r.s_kc x).kinds = r.kinds := id rfl
theorem T_kc_parents (r : Tst) (x : Nat) : (r.s_kc x).parents = r.parents := id rfl
theorem T_kc_depths (r : Tst) (x : Nat) : (r.s_kc x).depths = r.depths := id rfl
theorem T_kc_firsts (r : Tst) (x : Nat) : (r.s_kc x).firsts = r.firsts := id rfl
theorem T_kc_lasts (r : Tst) (x : Nat) : (r.s_kc x).lasts = r.lasts := id rfl
theorem T_kc_nexts (r : Tst) (x : Nat) : (r.s_kc x).nexts = r.nexts := id rfl
theorem T_kc_tsz (r : Tst) (x : Nat) : (r.s_kc x).tsz = r.tsz := id rfl
theorem T_kc_marks (r : Tst) (x : Nat) : (r.s_kc x).marks = r.marks := id rfl
theorem T_kc_kfrom (r : Tst) (x : Nat) : (r.s_kc x).kfrom = r.kfrom := id rfl
theorem T_kc_ksz (r : Tst) (x : Nat) : (r.s_kc x).ksz = r.ksz := id rfl
theorem T_kc_kept (r : Tst) (x : Nat) : (r.s_kc x).kept = r.kept := id rfl
theorem T_kc_nums (r : Tst) (x : Nat) : (r.s_kc x).nums = r.nums := id rfl
theorem T_count_kc (r : Tst) (x : Nat) : (r.s_count x).kc = r.kc := id rfl
theorem T_count_count (r : Tst) (x : Nat) : (r.s_count x).count = x := id rfl
theorem T_count_deepest (r : Tst) (x : Nat) : (r.s_count x).deepest = r.deepest := id rfl
theorem T_count_version (r : Tst) (x : Nat) : (r.s_count x).version = r.version := id rfl
theorem T_count_kinds (r : Tst) (x : Nat) : (r.s_count x).kinds = r.kinds := id rfl
theorem T_count_parents (r : Tst) (x : Nat) : (r.s_count x).parents = r.parents := id rfl
theorem T_count_depths (r : Tst) (x : Nat) : (r.s_count x).depths = r.depths := id rfl
theorem T_count_firsts (r : Tst) (x : Nat) : (r.s_count x).firsts = r.firsts := id rfl
theorem T_count_lasts (r : Tst) (x : Nat) : (r.s_count x).lasts = r.lasts := id rfl
theorem T_count_nexts (r : Tst) (x : Nat) : (r.s_count x).nexts = r.nexts := id rfl
theorem T_count_tsz (r : Tst) (x : Nat) : (r.s_count x).tsz = r.tsz := id rfl
theorem T_count_marks (r : Tst) (x : Nat) : (r.s_count x).marks = r.marks := id rfl
theorem T_count_kfrom (r : Tst) (x : Nat) : (r.s_count x).kfrom = r.kfrom := id rfl
theorem T_count_ksz (r : Tst) (x : Nat) : (r.s_count x).ksz = r.ksz := id rfl
theorem T_count_kept (r : Tst) (x : Nat) : (r.s_count x).kept = r.kept := id rfl
theorem T_count_nums (r : Tst) (x : Nat) : (r.s_count x).nums = r.nums := id rfl
theorem T_deepest_kc (r : Tst) (x : Nat) : (r.s_deepest x).kc = r.kc := id rfl
theorem T_deepest_count (r : Tst) (x : Nat) : (r.s_deepest x).count = r.count := id rfl
theorem T_deepest_deepest (r : Tst) (x : Nat) : (r.s_deepest x).deepest = x := id rfl
theorem T_deepest_version (r : Tst) (x : Nat) : (r.s_deepest x).version = r.version := id rfl
theorem T_deepest_kinds (r : Tst) (x : Nat) : (r.s_deepest x).kinds = r.kinds := id rfl
theorem T_deepest_parents (r : Tst) (x : Nat) : (r.s_deepest x).parents = r.parents := id rfl
theorem T_deepest_depths (r : Tst) (x : Nat) : (r.s_deepest x).depths = r.depths := id rfl
theorem T_deepest_firsts (r : Tst) (x : Nat) : (r.s_deepest x).firsts = r.firsts := id rfl
theorem T_deepest_lasts (r : Tst) (x : Nat) : (r.s_deepest x).lasts = r.lasts := id rfl
theorem T_deepest_nexts (r : Tst) (x : Nat) : (r.s_deepest x).nexts = r.nexts := id rfl
theorem T_deepest_tsz (r : Tst) (x : Nat) : (r.s_deepest x).tsz = r.tsz := id rfl
theorem T_deepest_marks (r : Tst) (x : Nat) : (r.s_deepest x).marks = r.marks := id rfl
theorem T_deepest_kfrom (r : Tst) (x : Nat) : (r.s_deepest x).kfrom = r.kfrom := id rfl
theorem T_deepest_ksz (r : Tst) (x : Nat) : (r.s_deepest x).ksz = r.ksz := id rfl
theorem T_deepest_kept (r : Tst) (x : Nat) : (r.s_deepest x).kept = r.kept := id rfl
theorem T_deepest_nums (r : Tst) (x : Nat) : (r.s_deepest x).nums = r.nums := id rfl
theorem T_version_kc (r : Tst) (x : Int32) : (r.s_version x).kc = r.kc := id rfl
theorem T_version_count (r : Tst) (x : Int32) : (r.s_version x).count = r.count := id rfl
theorem T_version_deepest (r : Tst) (x : Int32) : (r.s_version x).deepest = r.deepest := id rfl
theorem T_version_version (r : Tst) (x : Int32) : (r.s_version x).version = x := id rfl
theorem T_version_kinds (r : Tst) (x : Int32) : (r.s_version x).kinds = r.kinds := id rfl
theorem T_version_parents (r : Tst) (x : Int32) : (r.s_version x).parents = r.parents := id rfl
theorem T_version_depths (r : Tst) (x : Int32) : (r.s_version x).depths = r.depths := id rfl
theorem T_version_firsts (r : Tst) (x : Int32) : (r.s_version x).firsts = r.firsts := id rfl
theorem T_version_lasts (r : Tst) (x : Int32) : (r.s_version x).lasts = r.lasts := id rfl
theorem T_version_nexts (r : Tst) (x : Int32) : (r.s_version x).nexts = r.nexts := id rfl
theorem T_version_tsz (r : Tst) (x : Int32) : (r.s_version x).tsz = r.tsz := id rfl
theorem T_version_marks (r : Tst) (x : Int32) : (r.s_version x).marks = r.marks := id rfl
theorem T_version_kfrom (r : Tst) (x : Int32) : (r.s_version x).kfrom = r.kfrom := id rfl
theorem T_version_ksz (r : Tst) (x : Int32) : (r.s_version x).ksz = r.ksz := id rfl
theorem T_version_kept (r : Tst) (x : Int32) : (r.s_version x).kept = r.kept := id rfl
theorem T_version_nums (r : Tst) (x : Int32) : (r.s_version x).nums = r.nums := id rfl
theorem T_kinds_kc (r : Tst) (x : (Nat → Int32)) : (r.s_kinds x).kc = r.kc := id rfl
theorem T_kinds_count (r : Tst) (x : (Nat → Int32)) : (r.s_kinds x).count = r.count := id rfl
theorem T_kinds_deepest (r : Tst) (x : (Nat → Int32)) : (r.s_kinds x).deepest = r.deepest := id rfl
theorem T_kinds_version (r : Tst) (x : (Nat → Int32)) : (r.s_kinds x).version = r.version := id rfl
theorem T_kinds_kinds (r : Tst) (x : (Nat → Int32)) : (r.s_kinds x).kinds = x := id rfl
theorem T_kinds_parents (r : Tst) (x : (Nat → Int32)) : (r.s_kinds x).parents = r.parents := id rfl
theorem T_kinds_depths (r : Tst) (x : (Nat → Int32)) : (r.s_kinds x).depths = r.depths := id rfl
theorem T_kinds_firsts (r : Tst) (x : (Nat → Int32)) : (r.s_kinds x).firsts = r.firsts := id rfl
theorem T_kinds_lasts (r : Tst) (x : (Nat → Int32)) : (r.s_kinds x).lasts = r.lasts := id rfl
theorem T_kinds_nexts (r : Tst) (x : (Nat → Int32)) : (r.s_kinds x).nexts = r.nexts := id rfl
theorem T_kinds_tsz (r : Tst) (x : (Nat → Int32)) : (r.s_kinds x).tsz = r.tsz := id rfl
theorem T_kinds_marks (r : Tst) (x : (Nat → Int32)) : (r.s_kinds x).marks = r.marks := id rfl
theorem T_kinds_kfrom (r : Tst) (x : (Nat → Int32)) : (r.s_kinds x).kfrom = r.kfrom := id rfl
theorem T_kinds_ksz (r : Tst) (x : (Nat → Int32)) : (r.s_kinds x).ksz = r.ksz := id rfl
theorem T_kinds_kept (r : Tst) (x : (Nat → Int32)) : (r.s_kinds x).kept = r.kept := id rfl
theorem T_kinds_nums (r : Tst) (x : (Nat → Int32)) : (r.s_kinds x).nums = r.nums := id rfl
theorem T_parents_kc (r : Tst) (x : (Nat → Int32)) : (r.s_parents x).kc = r.kc := id rfl
theorem T_parents_count (r : Tst) (x : (Nat → Int32)) : (r.s_parents x).count = r.count := id rfl
theorem T_parents_deepest (r : Tst) (x : (Nat → Int32)) : (r.s_parents x).deepest = r.deepest := id rfl
theorem T_parents_version (r : Tst) (x : (Nat → Int32)) : (r.s_parents x).version = r.version := id rfl
theorem T_parents_kinds (r : Tst) (x : (Nat → Int32)) : (r.s_parents x).kinds = r.kinds := id rfl
theorem T_parents_parents (r : Tst) (x : (Nat → Int32)) : (r.s_parents x).parents = x := id rfl
theorem T_parents_depths (r : Tst) (x : (Nat → Int32)) : (r.s_parents x).depths = r.depths := id rfl
theorem T_parents_firsts (r : Tst) (x : (Nat → Int32)) : (r.s_parents x).firsts = r.firsts := id rfl
theorem T_parents_lasts (r : Tst) (x : (Nat → Int32)) : (r.s_parents x).lasts = r.lasts := id rfl
theorem T_parents_nexts (r : Tst) (x : (Nat → Int32)) : (r.s_parents x).nexts = r.nexts := id rfl
theorem T_parents_tsz (r : Tst) (x : (Nat → Int32)) : (r.s_parents x).tsz = r.tsz := id rfl
theorem T_parents_marks (r : Tst) (x : (Nat → Int32)) : (r.s_parents x).marks = r.marks := id rfl
theorem T_parents_kfrom (r : Tst) (x : (Nat → Int32)) : (r.s_parents x).kfrom = r.kfrom := id rfl
theorem T_parents_ksz (r : Tst) (x : (Nat → Int32)) : (r.s_parents x).ksz = r.ksz := id rfl
theorem T_parents_kept (r : Tst) (x : (Nat → Int32)) : (r.s_parents x).kept = r.kept := id rfl
theorem T_parents_nums (r : Tst) (x : (Nat → Int32)) : (r.s_parents x).nums = r.nums := id rfl
theorem T_depths_kc (r : Tst) (x : (Nat → Int32)) : (r.s_depths x).kc = r.kc := id rfl
theorem T_depths_count (r : Tst) (x : (Nat → Int32)) : (r.s_depths x).count = r.count := id rfl
theorem T_depths_deepest (r : Tst) (x : (Nat → Int32)) : (r.s_depths x).deepest = r.deepest := id rfl
theorem T_depths_version (r : Tst) (x : (Nat → Int32)) : (r.s_depths x).version = r.version := id rfl
theorem T_depths_kinds (r : Tst) (x : (Nat → Int32)) : (r.s_depths x).kinds = r.kinds := id rfl
theorem T_depths_parents (r : Tst) (x : (Nat → Int32)) : (r.s_depths x).parents = r.parents := id rfl
theorem T_depths_depths (r : Tst) (x : (Nat → Int32)) : (r.s_depths x).depths = x := id rfl
theorem T_depths_firsts (r : Tst) (x : (Nat → Int32)) : (r.s_depths x).firsts = r.firsts := id rfl
theorem T_depths_lasts (r : Tst) (x : (Nat → Int32)) : (r.s_depths x).lasts = r.lasts := id rfl
theorem T_depths_nexts (r : Tst) (x : (Nat → Int32)) : (r.s_depths x).nexts = r.nexts := id rfl
theorem T_depths_tsz (r : Tst) (x : (Nat → Int32)) : (r.s_depths x).tsz = r.tsz := id rfl
theorem T_depths_marks (r : Tst) (x : (Nat → Int32)) : (r.s_depths x).marks = r.marks := id rfl
theorem T_depths_kfrom (r : Tst) (x : (Nat → Int32)) : (r.s_depths x).kfrom = r.kfrom := id rfl
theorem T_depths_ksz (r : Tst) (x : (Nat → Int32)) : (r.s_depths x).ksz = r.ksz := id rfl
theorem T_depths_kept (r : Tst) (x : (Nat → Int32)) : (r.s_depths x).kept = r.kept := id rfl
theorem T_depths_nums (r : Tst) (x : (Nat → Int32)) : (r.s_depths x).nums = r.nums := id rfl
theorem T_firsts_kc (r : Tst) (x : (Nat → Int32)) : (r.s_firsts x).kc = r.kc := id rfl
theorem T_firsts_count (r : Tst) (x : (Nat → Int32)) : (r.s_firsts x).count = r.count := id rfl
theorem T_firsts_deepest (r : Tst) (x : (Nat → Int32)) : (r.s_firsts x).deepest = r.deepest := id rfl
theorem T_firsts_version (r : Tst) (x : (Nat → Int32)) : (r.s_firsts x).version = r.version := id rfl
theorem T_firsts_kinds (r : Tst) (x : (Nat → Int32)) : (r.s_firsts x).kinds = r.kinds := id rfl
theorem T_firsts_parents (r : Tst) (x : (Nat → Int32)) : (r.s_firsts x).parents = r.parents := id rfl
theorem T_firsts_depths (r : Tst) (x : (Nat → Int32)) : (r.s_firsts x).depths = r.depths := id rfl
theorem T_firsts_firsts (r : Tst) (x : (Nat → Int32)) : (r.s_firsts x).firsts = x := id rfl
theorem T_firsts_lasts (r : Tst) (x : (Nat → Int32)) : (r.s_firsts x).lasts = r.lasts := id rfl
theorem T_firsts_nexts (r : Tst) (x : (Nat → Int32)) : (r.s_firsts x).nexts = r.nexts := id rfl
theorem T_firsts_tsz (r : Tst) (x : (Nat → Int32)) : (r.s_firsts x).tsz = r.tsz := id rfl
theorem T_firsts_marks (r : Tst) (x : (Nat → Int32)) : (r.s_firsts x).marks = r.marks := id rfl
theorem T_firsts_kfrom (r : Tst) (x : (Nat → Int32)) : (r.s_firsts x).kfrom = r.kfrom := id rfl
theorem T_firsts_ksz (r : Tst) (x : (Nat → Int32)) : (r.s_firsts x).ksz = r.ksz := id rfl
theorem T_firsts_kept (r : Tst) (x : (Nat → Int32)) : (r.s_firsts x).kept = r.kept := id rfl
theorem T_firsts_nums (r : Tst) (x : (Nat → Int32)) : (r.s_firsts x).nums = r.nums := id rfl
theorem T_lasts_kc (r : Tst) (x : (Nat → Int32)) : (r.s_lasts x).kc = r.kc := id rfl
theorem T_lasts_count (r : Tst) (x : (Nat → Int32)) : (r.s_lasts x).count = r.count := id rfl
theorem T_lasts_deepest (r : Tst) (x : (Nat → Int32)) : (r.s_lasts x).deepest = r.deepest := id rfl
theorem T_lasts_version (r : Tst) (x : (Nat → Int32)) : (r.s_lasts x).version = r.version := id rfl
theorem T_lasts_kinds (r : Tst) (x : (Nat → Int32)) : (r.s_lasts x).kinds = r.kinds := id rfl
theorem T_lasts_parents (r : Tst) (x : (Nat → Int32)) : (r.s_lasts x).parents = r.parents := id rfl
theorem T_lasts_depths (r : Tst) (x : (Nat → Int32)) : (r.s_lasts x).depths = r.depths := id rfl
theorem T_lasts_firsts (r : Tst) (x : (Nat → Int32)) : (r.s_lasts x).firsts = r.firsts := id rfl
theorem T_lasts_lasts (r : Tst) (x : (Nat → Int32)) : (r.s_lasts x).lasts = x := id rfl
theorem T_lasts_nexts (r : Tst) (x : (Nat → Int32)) : (r.s_lasts x).nexts = r.nexts := id rfl
theorem T_lasts_tsz (r : Tst) (x : (Nat → Int32)) : (r.s_lasts x).tsz = r.tsz := id rfl
theorem T_lasts_marks (r : Tst) (x : (Nat → Int32)) : (r.s_lasts x).marks = r.marks := id rfl
theorem T_lasts_kfrom (r : Tst) (x : (Nat → Int32)) : (r.s_lasts x).kfrom = r.kfrom := id rfl
theorem T_lasts_ksz (r : Tst) (x : (Nat → Int32)) : (r.s_lasts x).ksz = r.ksz := id rfl
theorem T_lasts_kept (r : Tst) (x : (Nat → Int32)) : (r.s_lasts x).kept = r.kept := id rfl
theorem T_lasts_nums (r : Tst) (x : (Nat → Int32)) : (r.s_lasts x).nums = r.nums := id rfl
theorem T_nexts_kc (r : Tst) (x : (Nat → Int32)) : (r.s_nexts x).kc = r.kc := id rfl
theorem T_nexts_count (r : Tst) (x : (Nat → Int32)) : (r.s_nexts x).count = r.count := id rfl
theorem T_nexts_deepest (r : Tst) (x : (Nat → Int32)) : (r.s_nexts x).deepest = r.deepest := id rfl
theorem T_nexts_version (r : Tst) (x : (Nat → Int32)) : (r.s_nexts x).version = r.version := id rfl
theorem T_nexts_kinds (r : Tst) (x : (Nat → Int32)) : (r.s_nexts x).kinds = r.kinds := id rfl
theorem T_nexts_parents (r : Tst) (x : (Nat → Int32)) : (r.s_nexts x).parents = r.parents := id rfl
theorem T_nexts_depths (r : Tst) (x : (Nat → Int32)) : (r.s_nexts x).depths = r.depths := id rfl
theorem T_nexts_firsts (r : Tst) (x : (Nat → Int32)) : (r.s_nexts x).firsts = r.firsts := id rfl
theorem T_nexts_lasts (r : Tst) (x : (Nat → Int32)) : (r.s_nexts x).lasts = r.lasts := id rfl
theorem T_nexts_nexts (r : Tst) (x : (Nat → Int32)) : (r.s_nexts x).nexts = x := id rfl
theorem T_nexts_tsz (r : Tst) (x : (Nat → Int32)) : (r.s_nexts x).tsz = r.tsz := id rfl
theorem T_nexts_marks (r : Tst) (x : (Nat → Int32)) : (r.s_nexts x).marks = r.marks := id rfl
theorem T_nexts_kfrom (r : Tst) (x : (Nat → Int32)) : (r.s_nexts x).kfrom = r.kfrom := id rfl
theorem T_nexts_ksz (r : Tst) (x : (Nat → Int32)) : (r.s_nexts x).ksz = r.ksz := id rfl
theorem T_nexts_kept (r : Tst) (x : (Nat → Int32)) : (r.s_nexts x).kept = r.kept := id rfl
theorem T_nexts_nums (r : Tst) (x : (Nat → Int32)) : (r.s_nexts x).nums = r.nums := id rfl
theorem T_tsz_kc (r : Tst) (x : (Nat → Int32)) : (r.s_tsz x).kc = r.kc := id rfl
theorem T_tsz_count (r : Tst) (x : (Nat → Int32)) : (r.s_tsz x).count = r.count := id rfl
theorem T_tsz_deepest (r : Tst) (x : (Nat → Int32)) : (r.s_tsz x).deepest = r.deepest := id rfl
theorem T_tsz_version (r : Tst) (x : (Nat → Int32)) : (r.s_tsz x).version = r.version := id rfl
theorem T_tsz_kinds (r : Tst) (x : (Nat → Int32)) : (r.s_tsz x).kinds = r.kinds := id rfl
theorem T_tsz_parents (r : Tst) (x : (Nat → Int32)) : (r.s_tsz x).parents = r.parents := id rfl
theorem T_tsz_depths (r : Tst) (x : (Nat → Int32)) : (r.s_tsz x).depths = r.depths := id rfl
theorem T_tsz_firsts (r : Tst) (x : (Nat → Int32)) : (r.s_tsz x).firsts = r.firsts := id rfl
theorem T_tsz_lasts (r : Tst) (x : (Nat → Int32)) : (r.s_tsz x).lasts = r.lasts := id rfl
theorem T_tsz_nexts (r : Tst) (x : (Nat → Int32)) : (r.s_tsz x).nexts = r.nexts := id rfl
theorem T_tsz_tsz (r : Tst) (x : (Nat → Int32)) : (r.s_tsz x).tsz = x := id rfl
theorem T_tsz_marks (r : Tst) (x : (Nat → Int32)) : (r.s_tsz x).marks = r.marks := id rfl
theorem T_tsz_kfrom (r : Tst) (x : (Nat → Int32)) : (r.s_tsz x).kfrom = r.kfrom := id rfl
theorem T_tsz_ksz (r : Tst) (x : (Nat → Int32)) : (r.s_tsz x).ksz = r.ksz := id rfl
theorem T_tsz_kept (r : Tst) (x : (Nat → Int32)) : (r.s_tsz x).kept = r.kept := id rfl
theorem T_tsz_nums (r : Tst) (x : (Nat → Int32)) : (r.s_tsz x).nums = r.nums := id rfl
theorem T_marks_kc (r : Tst) (x : (Nat → Int32)) : (r.s_marks x).kc = r.kc := id rfl
theorem T_marks_count (r : Tst) (x : (Nat → Int32)) : (r.s_marks x).count = r.count := id rfl
theorem T_marks_deepest (r : Tst) (x : (Nat → Int32)) : (r.s_marks x).deepest = r.deepest := id rfl
theorem T_marks_version (r : Tst) (x : (Nat → Int32)) : (r.s_marks x).version = r.version := id rfl
theorem T_marks_kinds (r : Tst) (x : (Nat → Int32)) : (r.s_marks x).kinds = r.kinds := id rfl
theorem T_marks_parents (r : Tst) (x : (Nat → Int32)) : (r.s_marks x).parents = r.parents := id rfl
theorem T_marks_depths (r : Tst) (x : (Nat → Int32)) : (r.s_marks x).depths = r.depths := id rfl
theorem T_marks_firsts (r : Tst) (x : (Nat → Int32)) : (r.s_marks x).firsts = r.firsts := id rfl
theorem T_marks_lasts (r : Tst) (x : (Nat → Int32)) : (r.s_marks x).lasts = r.lasts := id rfl
theorem T_marks_nexts (r : Tst) (x : (Nat → Int32)) : (r.s_marks x).nexts = r.nexts := id rfl
theorem T_marks_tsz (r : Tst) (x : (Nat → Int32)) : (r.s_marks x).tsz = r.tsz := id rfl
theorem T_marks_marks (r : Tst) (x : (Nat → Int32)) : (r.s_marks x).marks = x := id rfl
theorem T_marks_kfrom (r : Tst) (x : (Nat → Int32)) : (r.s_marks x).kfrom = r.kfrom := id rfl
theorem T_marks_ksz (r : Tst) (x : (Nat → Int32)) : (r.s_marks x).ksz = r.ksz := id rfl
theorem T_marks_kept (r : Tst) (x : (Nat → Int32)) : (r.s_marks x).kept = r.kept := id rfl
theorem T_marks_nums (r : Tst) (x : (Nat → Int32)) : (r.s_marks x).nums = r.nums := id rfl
theorem T_kfrom_kc (r : Tst) (x : (Nat → Int32)) : (r.s_kfrom x).kc = r.kc := id rfl
theorem T_kfrom_count (r : Tst) (x : (Nat → Int32)) : (r.s_kfrom x).count = r.count := id rfl
theorem T_kfrom_deepest (r : Tst) (x : (Nat → Int32)) : (r.s_kfrom x).deepest = r.deepest := id rfl
theorem T_kfrom_version (r : Tst) (x : (Nat → Int32)) : (r.s_kfrom x).version = r.version := id rfl
theorem T_kfrom_kinds (r : Tst) (x : (Nat → Int32)) : (r.s_kfrom x).kinds = r.kinds := id rfl
theorem T_kfrom_parents (r : Tst) (x : (Nat → Int32)) : (r.s_kfrom x).parents = r.parents := id rfl
theorem T_kfrom_depths (r : Tst) (x : (Nat → Int32)) : (r.s_kfrom x).depths = r.depths := id rfl
theorem T_kfrom_firsts (r : Tst) (x : (Nat → Int32)) : (r.s_kfrom x).firsts = r.firsts := id rfl
theorem T_kfrom_lasts (r : Tst) (x : (Nat → Int32)) : (r.s_kfrom x).lasts = r.lasts := id rfl
theorem T_kfrom_nexts (r : Tst) (x : (Nat → Int32)) : (r.s_kfrom x).nexts = r.nexts := id rfl
theorem T_kfrom_tsz (r : Tst) (x : (Nat → Int32)) : (r.s_kfrom x).tsz = r.tsz := id rfl
theorem T_kfrom_marks (r : Tst) (x : (Nat → Int32)) : (r.s_kfrom x).marks = r.marks := id rfl
theorem T_kfrom_kfrom (r : Tst) (x : (Nat → Int32)) : (r.s_kfrom x).kfrom = x := id rfl
theorem T_kfrom_ksz (r : Tst) (x : (Nat → Int32)) : (r.s_kfrom x).ksz = r.ksz := id rfl
theorem T_kfrom_kept (r : Tst) (x : (Nat → Int32)) : (r.s_kfrom x).kept = r.kept := id rfl
theorem T_kfrom_nums (r : Tst) (x : (Nat → Int32)) : (r.s_kfrom x).nums = r.nums := id rfl
theorem T_ksz_kc (r : Tst) (x : (Nat → Int32)) : (r.s_ksz x).kc = r.kc := id rfl
theorem T_ksz_count (r : Tst) (x : (Nat → Int32)) : (r.s_ksz x).count = r.count := id rfl
theorem T_ksz_deepest (r : Tst) (x : (Nat → Int32)) : (r.s_ksz x).deepest = r.deepest := id rfl
theorem T_ksz_version (r : Tst) (x : (Nat → Int32)) : (r.s_ksz x).version = r.version := id rfl
theorem T_ksz_kinds (r : Tst) (x : (Nat → Int32)) : (r.s_ksz x).kinds = r.kinds := id rfl
theorem T_ksz_parents (r : Tst) (x : (Nat → Int32)) : (r.s_ksz x).parents = r.parents := id rfl
theorem T_ksz_depths (r : Tst) (x : (Nat → Int32)) : (r.s_ksz x).depths = r.depths := id rfl
theorem T_ksz_firsts (r : Tst) (x : (Nat → Int32)) : (r.s_ksz x).firsts = r.firsts := id rfl
theorem T_ksz_lasts (r : Tst) (x : (Nat → Int32)) : (r.s_ksz x).lasts = r.lasts := id rfl
theorem T_ksz_nexts (r : Tst) (x : (Nat → Int32)) : (r.s_ksz x).nexts = r.nexts := id rfl
theorem T_ksz_tsz (r : Tst) (x : (Nat → Int32)) : (r.s_ksz x).tsz = r.tsz := id rfl
theorem T_ksz_marks (r : Tst) (x : (Nat → Int32)) : (r.s_ksz x).marks = r.marks := id rfl
theorem T_ksz_kfrom (r : Tst) (x : (Nat → Int32)) : (r.s_ksz x).kfrom = r.kfrom := id rfl
theorem T_ksz_ksz (r : Tst) (x : (Nat → Int32)) : (r.s_ksz x).ksz = x := id rfl
theorem T_ksz_kept (r : Tst) (x : (Nat → Int32)) : (r.s_ksz x).kept = r.kept := id rfl
theorem T_ksz_nums (r : Tst) (x : (Nat → Int32)) : (r.s_ksz x).nums = r.nums := id rfl
theorem T_kept_kc (r : Tst) (x : (Nat → Int32)) : (r.s_kept x).kc = r.kc := id rfl
theorem T_kept_count (r : Tst) (x : (Nat → Int32)) : (r.s_kept x).count = r.count := id rfl
theorem T_kept_deepest (r : Tst) (x : (Nat → Int32)) : (r.s_kept x).deepest = r.deepest := id rfl
theorem T_kept_version (r : Tst) (x : (Nat → Int32)) : (r.s_kept x).version = r.version := id rfl
theorem T_kept_kinds (r : Tst) (x : (Nat → Int32)) : (r.s_kept x).kinds = r.kinds := id rfl
theorem T_kept_parents (r : Tst) (x : (Nat → Int32)) : (r.s_kept x).parents = r.parents := id rfl
theorem T_kept_depths (r : Tst) (x : (Nat → Int32)) : (r.s_kept x).depths = r.depths := id rfl
theorem T_kept_firsts (r : Tst) (x : (Nat → Int32)) : (r.s_kept x).firsts = r.firsts := id rfl
theorem T_kept_lasts (r : Tst) (x : (Nat → Int32)) : (r.s_kept x).lasts = r.lasts := id rfl
theorem T_kept_nexts (r : Tst) (x : (Nat → Int32)) : (r.s_kept x).nexts = r.nexts := id rfl
theorem T_kept_tsz (r : Tst) (x : (Nat → Int32)) : (r.s_kept x).tsz = r.tsz := id rfl
theorem T_kept_marks (r : Tst) (x : (Nat → Int32)) : (r.s_kept x).marks = r.marks := id rfl
theorem T_kept_kfrom (r : Tst) (x : (Nat → Int32)) : (r.s_kept x).kfrom = r.kfrom := id rfl
theorem T_kept_ksz (r : Tst) (x : (Nat → Int32)) : (r.s_kept x).ksz = r.ksz := id rfl
theorem T_kept_kept (r : Tst) (x : (Nat → Int32)) : (r.s_kept x).kept = x := id rfl
theorem T_kept_nums (r : Tst) (x : (Nat → Int32)) : (r.s_kept x).nums = r.nums := id rfl
theorem T_nums_kc (r : Tst) (x : (Nat → Int64)) : (r.s_nums x).kc = r.kc := id rfl
theorem T_nums_count (r : Tst) (x : (Nat → Int64)) : (r.s_nums x).count = r.count := id rfl
theorem T_nums_deepest (r : Tst) (x : (Nat → Int64)) : (r.s_nums x).deepest = r.deepest := id rfl
theorem T_nums_version (r : Tst) (x : (Nat → Int64)) : (r.s_nums x).version = r.version := id rfl
theorem T_nums_kinds (r : Tst) (x : (Nat → Int64)) : (r.s_nums x).kinds = r.kinds := id rfl
theorem T_nums_parents (r : Tst) (x : (Nat → Int64)) : (r.s_nums x).parents = r.parents := id rfl
theorem T_nums_depths (r : Tst) (x : (Nat → Int64)) : (r.s_nums x).depths = r.depths := id rfl
theorem T_nums_firsts (r : Tst) (x : (Nat → Int64)) : (r.s_nums x).firsts = r.firsts := id rfl
theorem T_nums_lasts (r : Tst) (x : (Nat → Int64)) : (r.s_nums x).lasts = r.lasts := id rfl
theorem T_nums_nexts (r : Tst) (x : (Nat → Int64)) : (r.s_nums x).nexts = r.nexts := id rfl
theorem T_nums_tsz (r : Tst) (x : (Nat → Int64)) : (r.s_nums x).tsz = r.tsz := id rfl
theorem T_nums_marks (r : Tst) (x : (Nat → Int64)) : (r.s_nums x).marks = r.marks := id rfl
theorem T_nums_kfrom (r : Tst) (x : (Nat → Int64)) : (r.s_nums x).kfrom = r.kfrom := id rfl
theorem T_nums_ksz (r : Tst) (x : (Nat → Int64)) : (r.s_nums x).ksz = r.ksz := id rfl
theorem T_nums_kept (r : Tst) (x : (Nat → Int64)) : (r.s_nums x).kept = r.kept := id rfl
theorem T_nums_nums (r : Tst) (x : (Nat → Int64)) : (r.s_nums x).nums = x := id rfl
def yY (u : Md) (r : Tst) : Md := (fun k => if k = 12 then zI r.kc else if k = 13 then zI r.count else if k = 14 then zI r.deepest else if k = 15 then r.version else u.1 k, u.2.1, fun k => if k = 0 then r.kinds else if k = 1 then r.parents else if k = 2 then r.depths else if k = 3 then r.firsts else if k = 4 then r.lasts else if k = 5 then r.nexts else if k = 7 then r.tsz else if k = 8 then r.marks else if k = 9 then r.kfrom else if k = 10 then r.ksz else if k = 11 then r.kept else u.2.2.1 k, r.nums)
theorem yY_12 (u : Md) (r : Tst) : gi (yY u r) 12 = zI r.kc := id rfl
set_option maxRecDepth 100000 in
set_option maxHeartbeats 4000000 in
theorem yY_s12 (u : Md) (r : Tst) (x : Nat) : si (yY u r) 12 (zI x) = yY u (r.s_kc x) := by
  refine Prod.ext (funext fun k => ?_) rfl
  by_cases h : k = 12 <;> simp [si, yY, upd, h, Tst.s_kc, Tst.kc, Tst.count, Tst.deepest, Tst.version, Tst.kinds, Tst.parents, Tst.depths, Tst.firsts, Tst.lasts, Tst.nexts, Tst.tsz, Tst.marks, Tst.kfrom, Tst.ksz, Tst.kept, Tst.nums]
theorem yY_13 (u : Md) (r : Tst) : gi (yY u r) 13 = zI r.count := id rfl
set_option maxRecDepth 100000 in
set_option maxHeartbeats 4000000 in
theorem yY_s13 (u : Md) (r : Tst) (x : Nat) : si (yY u r) 13 (zI x) = yY u (r.s_count x) := by
  refine Prod.ext (funext fun k => ?_) rfl
  by_cases h : k = 13 <;> simp [si, yY, upd, h, Tst.s_count, Tst.kc, Tst.count, Tst.deepest, Tst.version, Tst.kinds, Tst.parents, Tst.depths, Tst.firsts, Tst.lasts, Tst.nexts, Tst.tsz, Tst.marks, Tst.kfrom, Tst.ksz, Tst.kept, Tst.nums]
theorem yY_14 (u : Md) (r : Tst) : gi (yY u r) 14 = zI r.deepest := id rfl
set_option maxRecDepth 100000 in
set_option maxHeartbeats 4000000 in
theorem yY_s14 (u : Md) (r : Tst) (x : Nat) : si (yY u r) 14 (zI x) = yY u (r.s_deepest x) := by
  refine Prod.ext (funext fun k => ?_) rfl
  by_cases h : k = 14 <;> simp [si, yY, upd, h, Tst.s_deepest, Tst.kc, Tst.count, Tst.deepest, Tst.version, Tst.kinds, Tst.parents, Tst.depths, Tst.firsts, Tst.lasts, Tst.nexts, Tst.tsz, Tst.marks, Tst.kfrom, Tst.ksz, Tst.kept, Tst.nums]
theorem yY_15 (u : Md) (r : Tst) : gi (yY u r) 15 = r.version := id rfl
set_option maxRecDepth 100000 in
set_option maxHeartbeats 4000000 in
theorem yY_s15 (u : Md) (r : Tst) (x : Int32) : si (yY u r) 15 x = yY u (r.s_version x) := by
  refine Prod.ext (funext fun k => ?_) rfl
  by_cases h : k = 15 <;> simp [si, yY, upd, h, Tst.s_version, Tst.kc, Tst.count, Tst.deepest, Tst.version, Tst.kinds, Tst.parents, Tst.depths, Tst.firsts, Tst.lasts, Tst.nexts, Tst.tsz, Tst.marks, Tst.kfrom, Tst.ksz, Tst.kept, Tst.nums]
theorem yY_a0 (u : Md) (r : Tst) : ga (yY u r) 0 = r.kinds := id rfl
set_option maxRecDepth 100000 in
set_option maxHeartbeats 4000000 in
theorem yY_sa0 (u : Md) (r : Tst) (x : Nat → Int32) : sa (yY u r) 0 x = yY u (r.s_kinds x) := by
  refine Prod.ext rfl (Prod.ext rfl (Prod.ext (funext fun k => ?_) rfl))
  by_cases h : k = 0 <;> simp [sa, yY, va_up, h, Tst.s_kinds, Tst.kc, Tst.count, Tst.deepest, Tst.version, Tst.kinds, Tst.parents, Tst.depths, Tst.firsts, Tst.lasts, Tst.nexts, Tst.tsz, Tst.marks, Tst.kfrom, Tst.ksz, Tst.kept, Tst.nums]
theorem yY_a1 (u : Md) (r : Tst) : ga (yY u r) 1 = r.parents := id rfl
set_option maxRecDepth 100000 in
set_option maxHeartbeats 4000000 in
theorem yY_sa1 (u : Md) (r : Tst) (x : Nat → Int32) : sa (yY u r) 1 x = yY u (r.s_parents x) := by
  refine Prod.ext rfl (Prod.ext rfl (Prod.ext (funext fun k => ?_) rfl))
  by_cases h : k = 1 <;> simp [sa, yY, va_up, h, Tst.s_parents, Tst.kc, Tst.count, Tst.deepest, Tst.version, Tst.kinds, Tst.parents, Tst.depths, Tst.firsts, Tst.lasts, Tst.nexts, Tst.tsz, Tst.marks, Tst.kfrom, Tst.ksz, Tst.kept, Tst.nums]
theorem yY_a2 (u : Md) (r : Tst) : ga (yY u r) 2 = r.depths := id rfl
set_option maxRecDepth 100000 in
set_option maxHeartbeats 4000000 in
theorem yY_sa2 (u : Md) (r : Tst) (x : Nat → Int32) : sa (yY u r) 2 x = yY u (r.s_depths x) := by
  refine Prod.ext rfl (Prod.ext rfl (Prod.ext (funext fun k => ?_) rfl))
  by_cases h : k = 2 <;> simp [sa, yY, va_up, h, Tst.s_depths, Tst.kc, Tst.count, Tst.deepest, Tst.version, Tst.kinds, Tst.parents, Tst.depths, Tst.firsts, Tst.lasts, Tst.nexts, Tst.tsz, Tst.marks, Tst.kfrom, Tst.ksz, Tst.kept, Tst.nums]
theorem yY_a3 (u : Md) (r : Tst) : ga (yY u r) 3 = r.firsts := id rfl
set_option maxRecDepth 100000 in
set_option maxHeartbeats 4000000 in
theorem yY_sa3 (u : Md) (r : Tst) (x : Nat → Int32) : sa (yY u r) 3 x = yY u (r.s_firsts x) := by
  refine Prod.ext rfl (Prod.ext rfl (Prod.ext (funext fun k => ?_) rfl))
  by_cases h : k = 3 <;> simp [sa, yY, va_up, h, Tst.s_firsts, Tst.kc, Tst.count, Tst.deepest, Tst.version, Tst.kinds, Tst.parents, Tst.depths, Tst.firsts, Tst.lasts, Tst.nexts, Tst.tsz, Tst.marks, Tst.kfrom, Tst.ksz, Tst.kept, Tst.nums]
theorem yY_a4 (u : Md) (r : Tst) : ga (yY u r) 4 = r.lasts := id rfl
set_option maxRecDepth 100000 in
set_option maxHeartbeats 4000000 in
theorem yY_sa4 (u : Md) (r : Tst) (x : Nat → Int32) : sa (yY u r) 4 x = yY u (r.s_lasts x) := by
  refine Prod.ext rfl (Prod.ext rfl (Prod.ext (funext fun k => ?_) rfl))
  by_cases h : k = 4 <;> simp [sa, yY, va_up, h, Tst.s_lasts, Tst.kc, Tst.count, Tst.deepest, Tst.version, Tst.kinds, Tst.parents, Tst.depths, Tst.firsts, Tst.lasts, Tst.nexts, Tst.tsz, Tst.marks, Tst.kfrom, Tst.ksz, Tst.kept, Tst.nums]
theorem yY_a5 (u : Md) (r : Tst) : ga (yY u r) 5 = r.nexts := id rfl
set_option maxRecDepth 100000 in
set_option maxHeartbeats 4000000 in
theorem yY_sa5 (u : Md) (r : Tst) (x : Nat → Int32) : sa (yY u r) 5 x = yY u (r.s_nexts x) := by
  refine Prod.ext rfl (Prod.ext rfl (Prod.ext (funext fun k => ?_) rfl))
  by_cases h : k = 5 <;> simp [sa, yY, va_up, h, Tst.s_nexts, Tst.kc, Tst.count, Tst.deepest, Tst.version, Tst.kinds, Tst.parents, Tst.depths, Tst.firsts, Tst.lasts, Tst.nexts, Tst.tsz, Tst.marks, Tst.kfrom, Tst.ksz, Tst.kept, Tst.nums]
theorem yY_a7 (u : Md) (r : Tst) : ga (yY u r) 7 = r.tsz := id rfl
set_option maxRecDepth 100000 in
set_option maxHeartbeats 4000000 in
theorem yY_sa7 (u : Md) (r : Tst) (x : Nat → Int32) : sa (yY u r) 7 x = yY u (r.s_tsz x) := by
  refine Prod.ext rfl (Prod.ext rfl (Prod.ext (funext fun k => ?_) rfl))
  by_cases h : k = 7 <;> simp [sa, yY, va_up, h, Tst.s_tsz, Tst.kc, Tst.count, Tst.deepest, Tst.version, Tst.kinds, Tst.parents, Tst.depths, Tst.firsts, Tst.lasts, Tst.nexts, Tst.tsz, Tst.marks, Tst.kfrom, Tst.ksz, Tst.kept, Tst.nums]
theorem yY_a8 (u : Md) (r : Tst) : ga (yY u r) 8 = r.marks := id rfl
set_option maxRecDepth 100000 in
set_option maxHeartbeats 4000000 in
theorem yY_sa8 (u : Md) (r : Tst) (x : Nat → Int32) : sa (yY u r) 8 x = yY u (r.s_marks x) := by
  refine Prod.ext rfl (Prod.ext rfl (Prod.ext (funext fun k => ?_) rfl))
  by_cases h : k = 8 <;> simp [sa, yY, va_up, h, Tst.s_marks, Tst.kc, Tst.count, Tst.deepest, Tst.version, Tst.kinds, Tst.parents, Tst.depths, Tst.firsts, Tst.lasts, Tst.nexts, Tst.tsz, Tst.marks, Tst.kfrom, Tst.ksz, Tst.kept, Tst.nums]
theorem yY_a9 (u : Md) (r : Tst) : ga (yY u r) 9 = r.kfrom := id rfl
set_option maxRecDepth 100000 in
set_option maxHeartbeats 4000000 in
theorem yY_sa9 (u : Md) (r : Tst) (x : Nat → Int32) : sa (yY u r) 9 x = yY u (r.s_kfrom x) := by
  refine Prod.ext rfl (Prod.ext rfl (Prod.ext (funext fun k => ?_) rfl))
  by_cases h : k = 9 <;> simp [sa, yY, va_up, h, Tst.s_kfrom, Tst.kc, Tst.count, Tst.deepest, Tst.version, Tst.kinds, Tst.parents, Tst.depths, Tst.firsts, Tst.lasts, Tst.nexts, Tst.tsz, Tst.marks, Tst.kfrom, Tst.ksz, Tst.kept, Tst.nums]
theorem yY_a10 (u : Md) (r : Tst) : ga (yY u r) 10 = r.ksz := id rfl
set_option maxRecDepth 100000 in
set_option maxHeartbeats 4000000 in
theorem yY_sa10 (u : Md) (r : Tst) (x : Nat → Int32) : sa (yY u r) 10 x = yY u (r.s_ksz x) := by
  refine Prod.ext rfl (Prod.ext rfl (Prod.ext (funext fun k => ?_) rfl))
  by_cases h : k = 10 <;> simp [sa, yY, va_up, h, Tst.s_ksz, Tst.kc, Tst.count, Tst.deepest, Tst.version, Tst.kinds, Tst.parents, Tst.depths, Tst.firsts, Tst.lasts, Tst.nexts, Tst.tsz, Tst.marks, Tst.kfrom, Tst.ksz, Tst.kept, Tst.nums]
theorem yY_a11 (u : Md) (r : Tst) : ga (yY u r) 11 = r.kept := id rfl
set_option maxRecDepth 100000 in
set_option maxHeartbeats 4000000 in
theorem yY_sa11 (u : Md) (r : Tst) (x : Nat → Int32) : sa (yY u r) 11 x = yY u (r.s_kept x) := by
  refine Prod.ext rfl (Prod.ext rfl (Prod.ext (funext fun k => ?_) rfl))
  by_cases h : k = 11 <;> simp [sa, yY, va_up, h, Tst.s_kept, Tst.kc, Tst.count, Tst.deepest, Tst.version, Tst.kinds, Tst.parents, Tst.depths, Tst.firsts, Tst.lasts, Tst.nexts, Tst.tsz, Tst.marks, Tst.kfrom, Tst.ksz, Tst.kept, Tst.nums]
theorem yY_n (u : Md) (r : Tst) : gn (yY u r) = r.nums := id rfl
theorem yY_sn (u : Md) (r : Tst) (x : Nat → Int64) : sn (yY u r) x = yY u (r.s_nums x) := id rfl
set_option maxRecDepth 100000 in
set_option maxHeartbeats 4000000 in
theorem wW_ok {u : Md} {t : Nat → Int32} {n : Nat} (h : ROk u t n) (r : Rst) : ROk (wW u r) t n := ⟨h.sz, h.tx, h.le⟩
set_option maxRecDepth 100000 in
set_option maxHeartbeats 4000000 in
theorem S_ok {uS : Md} {t : Nat → Int32} {n : Nat} (h : SOk uS t n) (p : Nat) (f : Int32) (v : Int64) : SOk (sS uS p f v) t n := ⟨h.sz, h.tx, h.le⟩
