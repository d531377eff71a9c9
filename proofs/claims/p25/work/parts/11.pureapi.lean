/-! ===== words for the public methods' answers ===== -/
theorem nI_pos4 {k : Nat} (h1 : 1 ≤ k) (h : k ≤ 4) : 0 < nI k := (nI_ltI (a := 0) (by decide) (by omega)).mpr (by omega)
def fauR (T : Nat → Int32) (tn : Int32) (f : Nat → Int32) (G : St) (a : Int32) : Int32 := if a = 0 then (runF T tn 60 (btG f) G 0).1 0 else if a = 1 then (runF T tn 60 (btG f) G 0).1 5 else (runF T tn 60 (btG f) G 0).1 6
def fauI (T : Nat → Int32) (tn : Int32) (f : Nat → Int32) (G : St) (a : Int32) : Int32 := if (runF T tn 60 (btG f) G 0).1 5 = 0 then -1000004 else if a = 2 then (if (runF T tn 60 (btG f) G 0).1 5 = 3 then -1000004 else fauR T tn f G a) else fauR T tn f G a
