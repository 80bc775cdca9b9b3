/-! fitting: the elements of a document -/
def alw (s ty : Int32) : Bool := if s = 3 then decide (ty = 10 ∨ ty = 3) else if s = 0 then decide (ty = 16) else if s = 1 then decide (ty = 18 ∨ ty = 16) else decide (ty = 8)
theorem d_alw {G : Nat} (hG : G ≤ 8) (sor : AI) {p : Nat} (hp : p < G) (hs : ∃ x, x < 4 ∧ sor p = nn x) (ty : Int32) : fD_allowsType (nn p) ty (nn G) sor = some (alw (sor p) ty) := by
  unfold fD_allowsType alw
  rw [dSort hG sor hp, o_bind]
  have dd : ∀ (a b : Int32), (if ty = a then some true else if ty = b then some true else some false) = some (decide (ty = a ∨ ty = b)) := by
    intro a b
    by_cases h1 : ty = a
    · rw [if_pos h1, decide_eq_true (Or.inl h1)]
    · rw [if_neg h1]
      by_cases h2 : ty = b
      · rw [if_pos h2, decide_eq_true (Or.inr h2)]
      · rw [if_neg h2, decide_eq_false (fun z => z.elim h1 h2)]
  have d1 : ∀ (a : Int32), (if ty = a then some true else some false) = some (decide (ty = a)) := by
    intro a
    by_cases h1 : ty = a
    · rw [if_pos h1, decide_eq_true h1]
    · rw [if_neg h1, decide_eq_false h1]
  rw [dd, dd, d1, d1]
  obtain ⟨x, hx, e⟩ := hs
  rw [e]
  have : x = 0 ∨ x = 1 ∨ x = 2 ∨ x = 3 := by omega
  rcases this with rfl | rfl | rfl | rfl <;> rfl
theorem m_alw (s ty : Int32) : fM_typeFits ty s = some (alw s ty) := by
  unfold fM_typeFits alw
  by_cases h3 : s = 3
  · rw [if_pos h3, if_pos h3]
    by_cases h1 : ty = 10
    · rw [if_pos h1, decide_eq_true (Or.inl h1)]
    · rw [if_neg h1]
      by_cases h2 : ty = 3
      · rw [if_pos h2, decide_eq_true (Or.inr h2)]
      · rw [if_neg h2, decide_eq_false (fun z => z.elim h1 h2)]
  · rw [if_neg h3, if_neg h3]
    by_cases h0 : s = 0
    · rw [if_pos h0, if_pos h0]
      by_cases h1 : ty = 16
      · rw [if_pos h1, decide_eq_true h1]
      · rw [if_neg h1, decide_eq_false h1]
    · rw [if_neg h0, if_neg h0]
      by_cases h4 : s = 1
      · rw [if_pos h4, if_pos h4]
        by_cases h1 : ty = 18
        · rw [if_pos h1, decide_eq_true (Or.inl h1)]
        · rw [if_neg h1]
          by_cases h2 : ty = 16
          · rw [if_pos h2, decide_eq_true (Or.inr h2)]
          · rw [if_neg h2, decide_eq_false (fun z => z.elim h1 h2)]
      · rw [if_neg h4, if_neg h4]
        by_cases h1 : ty = 8
        · rw [if_pos h1, decide_eq_true h1]
        · rw [if_neg h1, decide_eq_false h1]
def bitP (p : Int32) : Int32 := (1 : Int32) <<< (p &&& 31)
def msk (l : List Int32) : Int32 := l.foldl (fun m p => m ||| bitP p) 0
theorem bit_k : ∀ a b : Fin 8, (bitP (nn a.val) &&& bitP (nn b.val)) = 0 ↔ a ≠ b := by decide +kernel
theorem or_and0 (a b c : Int32) : ((a ||| b) &&& c) = 0 ↔ (a &&& c) = 0 ∧ (b &&& c) = 0 := by
  rw [← Int32.toBitVec_inj, ← Int32.toBitVec_inj, ← Int32.toBitVec_inj]
  simp only [Int32.toBitVec_and, Int32.toBitVec_or]
  generalize a.toBitVec = a
  generalize b.toBitVec = b
  generalize c.toBitVec = c
  show (a ||| b) &&& c = 0#32 ↔ a &&& c = 0#32 ∧ b &&& c = 0#32
  constructor
  · intro h
    constructor
    · apply BitVec.eq_of_getLsbD_eq
      intro i hi
      have := congrArg (fun z => z.getLsbD i) h
      simp only [BitVec.getLsbD_and, BitVec.getLsbD_or, BitVec.getLsbD_zero] at this ⊢
      revert this
      cases a.getLsbD i <;> cases b.getLsbD i <;> cases c.getLsbD i <;> simp
    · apply BitVec.eq_of_getLsbD_eq
      intro i hi
      have := congrArg (fun z => z.getLsbD i) h
      simp only [BitVec.getLsbD_and, BitVec.getLsbD_or, BitVec.getLsbD_zero] at this ⊢
      revert this
      cases a.getLsbD i <;> cases b.getLsbD i <;> cases c.getLsbD i <;> simp
  · rintro ⟨h1, h2⟩
    apply BitVec.eq_of_getLsbD_eq
    intro i hi
    have q1 := congrArg (fun z => z.getLsbD i) h1
    have q2 := congrArg (fun z => z.getLsbD i) h2
    simp only [BitVec.getLsbD_and, BitVec.getLsbD_or, BitVec.getLsbD_zero] at q1 q2 ⊢
    revert q1 q2
    cases a.getLsbD i <;> cases b.getLsbD i <;> cases c.getLsbD i <;> simp
def allP (l : List Int32) : Prop := ∀ x, x ∈ l → ∃ k, k < 8 ∧ x = nn k
theorem msk_in : ∀ (l : List Int32) (m : Int32), allP l → ∀ k, k < 8 → (((l.foldl (fun m p => m ||| bitP p) m) &&& bitP (nn k)) = 0 ↔ (m &&& bitP (nn k)) = 0 ∧ nn k ∉ l)
  | [], m, _, k, _ => by simp
  | x :: l, m, h, k, hk => by
    show (((l.foldl (fun m p => m ||| bitP p) (m ||| bitP x)) &&& bitP (nn k)) = 0 ↔ _)
    rw [msk_in l (m ||| bitP x) (fun y hy => h y (List.mem_cons_of_mem _ hy)) k hk, or_and0, List.mem_cons, not_or]
    obtain ⟨q, hq, rfl⟩ := h x List.mem_cons_self
    have := bit_k ⟨q, hq⟩ ⟨k, hk⟩
    dsimp only at this
    rw [this]
    have e : (⟨q, hq⟩ : Fin 8) ≠ ⟨k, hk⟩ ↔ ¬ nn k = nn q := by
      rw [nn_eq (by omega) (by omega)]
      constructor
      · intro a b; exact a (by cases b; rfl)
      · intro a b; cases b; exact a rfl
    rw [e]
    constructor
    · rintro ⟨⟨a, b⟩, c⟩; exact ⟨a, b, c⟩
    · rintro ⟨a, b, c⟩; exact ⟨⟨a, b⟩, c⟩
theorem msk_0 {l : List Int32} (h : allP l) {k : Nat} (hk : k < 8) : (msk l &&& bitP (nn k)) = 0 ↔ nn k ∉ l := by
  have := msk_in l 0 h k hk
  unfold msk
  rw [this]
  have z : (0 : Int32) &&& bitP (nn k) = 0 := by simp
  exact ⟨fun a => a.2, fun a => ⟨z, a⟩⟩
theorem msk_s (l : List Int32) (p : Int32) : msk (l ++ [p]) = msk l ||| bitP p := by
  unfold msk
  rw [List.foldl_append]
  rfl
def isCd (f : AI) (d : Nat) (e : El) : Bool := decide (e.2.2.2.2.1 = d) && !mk f e
def chN (e : El) : Nat := (eCh e).toNatClampNeg
def apN (w : AI) (u : List (Nat × Int32)) : AI := u.foldl (fun w x => upd w x.1 x.2) w
/-- the classes that a document's elements want, or none where an element does not fit -/
def efS (E : En) (f : AI) (d : Nat) (c : Int32) : List El → List Int32 → Option (List (Nat × Int32))
  | [], _ => some []
  | e :: l, seen => if isCd f d e = true then (if abt E f c e < 0 ∨ alw (eSor E (abt E f c e).toNatClampNeg) (eTy e) = false ∨ abt E f c e ∈ seen then none else (efS E f d c l (seen ++ [abt E f c e])).map (fun u => (if e.1 = 3 then [(chN e, eTar E (abt E f c e).toNatClampNeg)] else []) ++ u)) else efS E f d c l seen
/-- children are documents: small numbers -/
def chOk (els : List El) : Prop := ∀ e, e ∈ els → e.2.2.2.2.1 < 25 ∧ (e.1 = 3 → chN e < 25 ∧ eCh e = nn (chN e)) ∧ (¬ e.1 = 3 → eCh e = -1)
theorem f_el {E : En} (hE : gE E) {N B : Nat} (hN : 200 ≤ N) {f : AI} (hy : yI B f) {els : List El} (hl : els.length ≤ 58) (hg : ∀ e, e ∈ els → gEl B f e) (hch : chOk els) {d : Nat} (hd : d < 25) (mt t n h i : AI) (hm : mt d = -1 ∨ ∃ x, x < eC E ∧ mt d = nn x) : ∀ (k j q : Nat) (seen : List Int32) (w : AI), j + k = els.length → k < q → allP seen → (∀ u, efS E f d (mt d) (els.drop j) seen = some u → fF_elementsFit_4l N (nn d) mt (nn (eC E)) (nn (eG E)) (ePar E) (eOwn E) (eLet E) (eSor E) (eTar E) (nn B) f (nn els.length) (wr t 0 (els.map eTy)) (wr n 0 (els.map eNm)) (wr h 0 (els.map eHo)) (wr i 0 (els.map eCh)) q (msk seen, nn j, w) = some (true, apN w u)) ∧ (efS E f d (mt d) (els.drop j) seen = none → ∃ w', fF_elementsFit_4l N (nn d) mt (nn (eC E)) (nn (eG E)) (ePar E) (eOwn E) (eLet E) (eSor E) (eTar E) (nn B) f (nn els.length) (wr t 0 (els.map eTy)) (wr n 0 (els.map eNm)) (wr h 0 (els.map eHo)) (wr i 0 (els.map eCh)) q (msk seen, nn j, w) = some (false, w')) := by
  have hB := hy.1
  have hG := hE.1.2.1
  intro k
  induction k with
  | zero =>
    intro j q seen w hj hq hs
    obtain ⟨q, rfl⟩ : ∃ z, q = z + 1 := ⟨q - 1, by omega⟩
    rw [List.drop_eq_nil_of_le (by omega)]
    refine ⟨fun u hu => ?_, fun hu => (by cases hu)⟩
    cases hu
    show fF_elementsFit_4 N (nn d) mt (nn (eC E)) (nn (eG E)) (ePar E) (eOwn E) (eLet E) (eSor E) (eTar E) (nn B) f (nn els.length) (wr t 0 (els.map eTy)) (wr n 0 (els.map eNm)) (wr h 0 (els.map eHo)) (wr i 0 (els.map eCh)) (fF_elementsFit_4l N (nn d) mt (nn (eC E)) (nn (eG E)) (ePar E) (eOwn E) (eLet E) (eSor E) (eTar E) (nn B) f (nn els.length) (wr t 0 (els.map eTy)) (wr n 0 (els.map eNm)) (wr h 0 (els.map eHo)) (wr i 0 (els.map eCh)) q) (msk seen) (nn j) w = _
    unfold fF_elementsFit_4
    rw [if_pos (by rw [nn_le (by omega) (by omega)]; omega)]
    rfl
  | succ k ih =>
    intro j q seen w hj hq hs
    obtain ⟨q, rfl⟩ : ∃ z, q = z + 1 := ⟨q - 1, by omega⟩
    have hlt : j < els.length := by omega
    have hge : els[j]? = some els[j] := List.getElem?_eq_getElem hlt
    have hgj := hg _ (List.getElem_mem hlt)
    obtain ⟨c1, c2, c3⟩ := hch _ (List.getElem_mem hlt)
    rw [List.drop_eq_getElem_cons hlt, efS]
    generalize hej : els[j] = e at *
    have qh : eHo e = nn d ↔ e.2.2.2.2.1 = d := nn_eq (by omega) (by omega)
    have hstep : fF_elementsFit_4l N (nn d) mt (nn (eC E)) (nn (eG E)) (ePar E) (eOwn E) (eLet E) (eSor E) (eTar E) (nn B) f (nn els.length) (wr t 0 (els.map eTy)) (wr n 0 (els.map eNm)) (wr h 0 (els.map eHo)) (wr i 0 (els.map eCh)) (q + 1) (msk seen, nn j, w) = fF_elementsFit_4 N (nn d) mt (nn (eC E)) (nn (eG E)) (ePar E) (eOwn E) (eLet E) (eSor E) (eTar E) (nn B) f (nn els.length) (wr t 0 (els.map eTy)) (wr n 0 (els.map eNm)) (wr h 0 (els.map eHo)) (wr i 0 (els.map eCh)) (fF_elementsFit_4l N (nn d) mt (nn (eC E)) (nn (eG E)) (ePar E) (eOwn E) (eLet E) (eSor E) (eTar E) (nn B) f (nn els.length) (wr t 0 (els.map eTy)) (wr n 0 (els.map eNm)) (wr h 0 (els.map eHo)) (wr i 0 (els.map eCh)) q) (msk seen) (nn j) w := rfl
    rw [hstep]
    unfold fF_elementsFit_4
    rw [if_neg (c := nn els.length ≤ nn j) (by rw [nn_le (by omega) (by omega)]; omega), a_holder hl hge, o_bind, a_mark hy hl hge hgj, o_bind, nn_s]
    by_cases h1 : e.2.2.2.2.1 = d
    · rw [if_pos (c := eHo e = nn d) (qh.mpr h1)]
      by_cases h2 : mk f e = true
      · have hi : ¬ isCd f d e = true := by unfold isCd; rw [h2]; simp
        rw [if_neg hi, if_pos (c := mk f e = true) h2]
        exact ih (j + 1) q seen w (by omega) (by omega) hs
      · have hi : isCd f d e = true := by
          unfold isCd
          rw [decide_eq_true h1]
          cases q : mk f e with
          | true => exact absurd q h2
          | false => rfl
        have hab := f_about hE hN hy hl hge hgj c1 mt n h (by rw [h1]; exact hm)
        rw [h1] at hab
        rw [if_pos hi, if_neg (c := mk f e = true) h2, hab, o_bind, a_type hl hge, o_bind]
        rcases abt_or (E := E) f (mt d) e with ea | ⟨p, hp, ea⟩
        · rw [ea, if_pos (Or.inl neg1_lt)]
          refine ⟨fun u hu => (by cases hu), fun _ => ?_⟩
          unfold fD_allowsType
          rw [dSort_no]
          exact ⟨w, rfl⟩
        · rw [ea, d_alw hG _ hp (hE.1.2.2.2.2 p hp).2.2.1, o_bind, nn_c (show p < 2147483648 by omega)]
          by_cases h3 : alw (eSor E p) (eTy e) = true
          · rw [if_pos (c := alw (eSor E p) (eTy e) = true) h3]
            show (∀ u, _ → (if (msk seen &&& bitP (nn p)) = 0 then _ else _) = _) ∧ (_ → ∃ w', (if (msk seen &&& bitP (nn p)) = 0 then _ else _) = _)
            by_cases h4 : nn p ∈ seen
            · rw [if_neg (c := (msk seen &&& bitP (nn p)) = 0) (fun z => ((msk_0 hs (by omega)).mp z) h4), if_pos (Or.inr (Or.inr h4))]
              exact ⟨fun u hu => (by cases hu), fun _ => ⟨w, rfl⟩⟩
            · rw [if_pos (c := (msk seen &&& bitP (nn p)) = 0) ((msk_0 hs (by omega)).mpr h4), if_neg (fun z => z.elim (fun a => nn_neg (by omega) a) (fun a => a.elim (fun b => by rw [h3] at b; cases b) h4))]
              have hs2 : allP (seen ++ [nn p]) := by
                intro y hy
                rcases List.mem_append.mp hy with a | a
                · exact hs y a
                · exact ⟨p, by omega, List.mem_singleton.mp a⟩
              have hw : fF_wantInside (nn j) (nn p) w (nn (eG E)) (eTar E) (nn els.length) (wr i 0 (els.map eCh)) = some (apN w (if e.1 = 3 then [(chN e, eTar E p)] else [])) := by
                unfold fF_wantInside
                rw [a_inner hl hge, o_bind]
                by_cases h5 : e.1 = 3
                · obtain ⟨k1, k2⟩ := c2 h5
                  rw [if_pos h5, k2, if_neg (nn_neg (by omega)), if_neg (c := (30 : Int32) ≤ nn (chN e)) (by rw [show (30 : Int32) = nn 30 from rfl, nn_le (by omega) (by omega)]; omega), dTarget hG _ hp, o_bind, if_pos (nn_okt (by omega) (by omega)), nn_c (by omega)]
                  rfl
                · rw [if_neg h5, c3 h5, if_pos neg1_lt]
                  rfl
              rw [hw, o_bind]
              have hmm : msk seen ||| (1 : Int32) <<< (nn p &&& 31) = msk (seen ++ [nn p]) := (msk_s seen (nn p)).symm
              rw [hmm]
              obtain ⟨i1, i2⟩ := ih (j + 1) q (seen ++ [nn p]) (apN w (if e.1 = 3 then [(chN e, eTar E p)] else [])) (by omega) (by omega) hs2
              constructor
              · intro u hu
                cases hr : efS E f d (mt d) (els.drop (j + 1)) (seen ++ [nn p]) with
                | none => rw [hr] at hu; cases hu
                | some u2 =>
                  rw [hr] at hu
                  cases hu
                  rw [i1 u2 hr]
                  unfold apN
                  rw [List.foldl_append]
              · intro hu
                cases hr : efS E f d (mt d) (els.drop (j + 1)) (seen ++ [nn p]) with
                | none => exact i2 hr
                | some u2 => rw [hr] at hu; cases hu
          · have h3f : alw (eSor E p) (eTy e) = false := by cases q : alw (eSor E p) (eTy e) with
              | true => exact absurd q h3
              | false => rfl
            rw [if_neg (c := alw (eSor E p) (eTy e) = true) h3, if_pos (Or.inr (Or.inl h3f))]
            exact ⟨fun u hu => (by cases hu), fun _ => ⟨w, rfl⟩⟩
    · have hi : ¬ isCd f d e = true := by unfold isCd; rw [decide_eq_false h1]; simp
      rw [if_neg (c := eHo e = nn d) (fun z => h1 (qh.mp z)), if_neg hi]
      exact ih (j + 1) q seen w (by omega) (by omega) hs
