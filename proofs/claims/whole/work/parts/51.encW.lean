/-! the writer: what a document is, as a list of bytes -/
abbrev En : Type := Nat × Nat × AI × AI × AI × AI × AI × Nat × AI × AJ × AI
def eC (E : En) : Nat := E.1
def eG (E : En) : Nat := E.2.1
def ePar (E : En) : AI := E.2.2.1
def eOwn (E : En) : AI := E.2.2.2.1
def eLet (E : En) : AI := E.2.2.2.2.1
def eSor (E : En) : AI := E.2.2.2.2.2.1
def eTar (E : En) : AI := E.2.2.2.2.2.2.1
def eO (E : En) : Nat := E.2.2.2.2.2.2.2.1
def eKin (E : En) : AI := E.2.2.2.2.2.2.2.2.1
def eVal (E : En) : AJ := E.2.2.2.2.2.2.2.2.2.1
def ePrt (E : En) : AI := E.2.2.2.2.2.2.2.2.2.2
/-- the properties that a kind gives itself, all that an object of a kind has -/
def ownL (E : En) (k : Nat) : List Nat := (List.range' 0 8).filter (fun p => decide (p < eG E) && decide (eOwn E p = nn k))
def kinL (E : En) (c : Int32) (n : Nat) : List Nat := (List.range' 0 n).flatMap (fun k => if isK (ePar E) c (nn k) = true then ownL E k else [])
def hd (E : En) (t : Int32) (p : Nat) : List Int32 := [t, 97 + eLet E p, 0]
def elL (E : En) (rec : Nat → Int32 → Option (List Int32)) (o p : Nat) : Option (List Int32) :=
  if eSor E p = 0 then some (hd E 16 p ++ num (eVal E (8 * o + p)) 4 0) else
  if eSor E p = 1 then some (hd E 18 p ++ num (eVal E (8 * o + p)) 8 0) else
  if eSor E p = 2 then some (hd E 8 p ++ num (eVal E (8 * o + p)) 1 0) else
  if ePrt E (8 * o + p) = -1 then some (hd E 10 p) else (rec (ePrt E (8 * o + p)).toNatClampNeg (eTar E p)).map (fun l => hd E 3 p ++ l)
def esL (E : En) (rec : Nat → Int32 → Option (List Int32)) (o : Nat) : List Nat → Option (List Int32)
  | [] => some []
  | p :: ps => (elL E rec o p).bind fun l1 => (esL E rec o ps).map fun l2 => l1 ++ l2
def mkL (E : En) (o : Nat) (c : Int32) : List Int32 := if eKin E o = c then [] else [2, 95, 116, 0, 2, 0, 0, 0, 65 + eKin E o, 0]
def docL (E : En) : Nat → Nat → Int32 → Option (List Int32)
  | 0, _, _ => none
  | r + 1, o, c => (esL E (docL E r) o (kinL E (eKin E o) (eC E))).map fun l => nn (4 + (mkL E o c).length + l.length + 1) :: 0 :: 0 :: 0 :: (mkL E o c ++ l ++ [0])
theorem Fo_i (m : Nat) (hm : m ≤ 120) (g : AI) : Fo (some (false, nn m, g)) := ⟨_, rfl, rfl, m, hm, rfl⟩
theorem w_head {n : Nat} (hn : n ≤ 120) (f : AI) (t l : Int32) : Wo n f (some [t, 97 + l, 0]) (fW_writeHead t l (nn n) f) := by
  unfold fW_writeHead
  refine Wo_seq (L1 := some [t]) (L2 := some [97 + l, 0]) (w_add hn f t) (fun l1 h1 hb => ?_) (fun m g hm => ?_)
  · cases h1
    dsimp only
    rw [if_pos rfl]
    refine Wo_seq (L1 := some [97 + l]) (L2 := some [0]) (w_add hb _ _) (fun l1 h1 hb => ?_) (fun m g hm => ?_)
    · cases h1
      dsimp only
      rw [if_pos rfl]
      refine Wo_seq (L1 := some [0]) (L2 := some []) (w_add hb _ _) (fun l1 h1 hb => ?_) (fun m g hm => ?_)
      · cases h1
        dsimp only
        rw [if_pos rfl]
        refine ⟨_, rfl, fun l hl => ?_, fun hl => by cases hl⟩
        cases hl
        exact ⟨fun _ => rfl, fun q => absurd hb q⟩
      · dsimp only
        rw [if_neg (by decide)]
        exact Fo_i m hm g
    · dsimp only
      rw [if_neg (by decide)]
      exact Fo_i m hm g
  · dsimp only
    rw [if_neg (by decide)]
    exact Fo_i m hm g
