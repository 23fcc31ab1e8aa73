def own (k : Nat) : Nat := ownL.getD k 99
def mxl (k : Nat) : Nat := mxL.getD k 0
def rtc (k : Nat) : Nat := rtL.getD k 9
def frr (k : Nat) : Nat := frL.getD k 0
def lor (k : Nat) : Nat := loL.getD k 0
def npr (k : Nat) : Nat := npL.getD k 0
def how (k : Nat) : Nat := hwL.getD k 9
def asc {α : Type} (i : Nat) : List (Nat × α) → Option α
  | [] => none
  | q :: r => cond (Nat.beq q.1 i) (some q.2) (asc i r)
def fl (k i : Nat) : Option (Nat × Nat) := asc i (flL.getD (own k) [])
def mli (k i : Nat) : Option (Nat × Bool) := asc i (mlL.getD (own k) [])
def cli (k i : Nat) : Option Nat := asc i (clL.getD (own k) [])
def csi (k i : Nat) : Option Int := asc i (csL.getD (own k) [])
/-- the shape of a place: (0, class), (1, n) ints, (2, n) booleans, (3, n) longs, (4, n) KnotRecords -/
def kd (a : Nat) : Nat × Nat := match a with
  | 0 => (5, 0)
  | a + 1 => kdL.getD a (5, 0)
def ft (ci j : Nat) : Nat := (ftL.getD ci []).getD j 9
def ofs (ci j : Nat) : Nat := (ofL.getD ci []).getD j 0
