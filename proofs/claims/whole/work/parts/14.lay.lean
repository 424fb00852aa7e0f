/-! the world behind both constructors: its shape (printed by wip/whole/gen_lay.py); X the objects' numbers, A the rows of ints, L the rows of longs, by the cells' numbers -/
/-- the distance of two cells, by the columns that slant -/
def dsN (a b : Nat) : Nat :=
  let r1 : Int := (a / 7 : Nat); let r2 : Int := (b / 7 : Nat)
  let q1 : Int := (a % 7 : Nat) - (((a / 7) / 2 : Nat) : Int); let q2 : Int := (b % 7 : Nat) - (((b / 7) / 2 : Nat) : Int)
  ((r1 - r2).natAbs + (q1 - q2).natAbs + (q1 - q2 + (r1 - r2)).natAbs) / 2
def isNx (a b : Nat) : Bool := dsN a b == 1
/-- a cell's neighbours, by numbers -/
def nbL (a : Nat) : List Nat := (List.range 49).filter (isNx a)
def tNb (j : Nat) : Int32 := nI ((nbL (j / 6)).getD (j % 6) 0)
def tDg (j : Nat) : Int32 := nI (nbL j).length
def tDs (j : Nat) : Int32 := nI (dsN (j / 49) (j % 49))
def tSh (j : Nat) : Option Nat := if j < 6 then some (64 + 2 * j) else none
def fBB (x : Nat → Int32) : List Value := [.ref 5, .ref 10, .ref 15, .ref 35, .ref 43, .ref 47, .ref 51, .ref 55, .ref 56, .int (x 9), .ref 57, .ref 60, .ref 63]
def fSet (x : Nat → Int32) : List Value := [.ref 11, .int (x 1), .ref 12, .ref 13, .ref 14, .int (x 5), .int (x 6)]
def fRd (x : Nat → Int32) : List Value := [.ref 17, .int (x 1), .ref 18, .int (x 3), .int (x 4), .int (x 5), .int (x 6)]
def fTel (x : Nat → Int32) : List Value := [.ref 15, .ref 39, .ref 36, .int (x 3), .ref 37, .ref 38, .int (x 6), .int (x 7)]
def fRea (x : Nat → Int32) : List Value := [.ref 58, .int (x 1), .ref 59, .int (x 3), .int (x 4), .int (x 5)]
def fHiv (x : Nat → Int32) : List Value := [.ref 61, .int (x 1), .ref 62, .int (x 3), .int (x 4)]
def fScr (x : Nat → Int32) : List Value := [.ref 5, .ref 10, .ref 16, .ref (x 3).toNatClampNeg, .ref (x 4).toNatClampNeg]
def fComb (K : Nat) (x : Nat → Int32) : List Value := [.ref 5, .ref (K + 1), .ref (K + 2), .ref (K + 3), .int (x 4)]
def fLaw (B : Nat) (x : Nat → Int32) : List Value := [.ref (B + 1), .ref (B + 2), .int (x 2), .ref (B + 3), .ref (B + 4), .ref (B + 5), .int (x 6), .int (x 7), .int (x 8), .ref (B + 6), .ref (B + 7)]
def fShe (S : Nat) (x : Nat → Int32) : List Value := [.int (x 0), .int (x 1), .int (x 2), .int (x 3), .ref (S + 1)]
def fMod (x : Nat → Int32) : List Value := [.ref 77, .ref 78, .ref 79, .ref 80, .int (x 4), .int (x 5), .ref 81, .int (x 7), .ref 82, .ref 83, .ref 84, .ref 85, .ref 86, .int (x 13), .ref 87, .int (x 15), .int (x 16), .int (x 17), .int (x 18), .int (x 19), .int (x 20), .ref 88, .ref 89, .ref 90, .ref 91, .int (x 25), .ref 92, .int (x 27), .int (x 28), .int (x 29), .ref 93, .ref 94, .int (x 32), .ref 95, .ref 96, .ref 97, .int (x 36), .ref 98, .ref 99, .int (x 39), .int (x 40), .int (x 41), .ref 100, .ref 101, .ref 102, .ref 103]
def tsh : List ((Nat → Int32) → (Nat → Int32) → (Nat → Int64) → jE) := [
  fun _ _ _ => jAbs,
  fun _ _ _ => jAbs,
  fun _ _ _ => jAbs,
  fun _ _ _ => jAbs,
  fun x f g => .inr (10, fBB x),
  fun x f g => .inr (1, [.ref 6, .ref 7, .ref 8]),
  fun x f g => .inl (0, 294, .inl tNb),
  fun x f g => .inl (0, 49, .inl tDg),
  fun x f g => .inl (0, 2401, .inl tDs),
  fun x f g => .inl (0, 49, .inl f),
  fun x f g => .inr (7, fSet x),
  fun x f g => .inl (0, 8, .inl f),
  fun x f g => .inl (0, 40, .inl f),
  fun x f g => .inl (0, 40, .inl f),
  fun x f g => .inl (0, 40, .inl f),
  fun x f g => .inr (6, fScr x),
  fun x f g => .inr (4, fRd x),
  fun x f g => .inl (0, 120, .inl f),
  fun x f g => .inl (0, 120, .inl f),
  fun x f g => .inr (3, (fLaw 19) x),
  fun x f g => .inl (0, 120, .inl f),
  fun x f g => .inl (0, 120, .inl f),
  fun x f g => .inl (0, 61, .inl f),
  fun x f g => .inl (0, 61, .inl f),
  fun x f g => .inl (0, 61, .inl f),
  fun x f g => .inl (0, 6, .inl f),
  fun x f g => .inl (0, 120, .inl f),
  fun x f g => .inr (3, (fLaw 27) x),
  fun x f g => .inl (0, 120, .inl f),
  fun x f g => .inl (0, 120, .inl f),
  fun x f g => .inl (0, 61, .inl f),
  fun x f g => .inl (0, 61, .inl f),
  fun x f g => .inl (0, 61, .inl f),
  fun x f g => .inl (0, 6, .inl f),
  fun x f g => .inl (0, 120, .inl f),
  fun x f g => .inr (9, fTel x),
  fun x f g => .inl (0, 30, .inl f),
  fun x f g => .inl (0, 5, .inl f),
  fun x f g => .inl (0, 5, .inl f),
  fun x f g => .inr (0, (fComb 39) x),
  fun x f g => .inl (0, 49, .inl f),
  fun x f g => .inl (0, 49, .inl f),
  fun x f g => .inl (0, 49, .inl f),
  fun x f g => .inr (0, (fComb 43) x),
  fun x f g => .inl (0, 49, .inl f),
  fun x f g => .inl (0, 49, .inl f),
  fun x f g => .inl (0, 49, .inl f),
  fun x f g => .inr (0, (fComb 47) x),
  fun x f g => .inl (0, 49, .inl f),
  fun x f g => .inl (0, 49, .inl f),
  fun x f g => .inl (0, 49, .inl f),
  fun x f g => .inr (0, (fComb 51) x),
  fun x f g => .inl (0, 49, .inl f),
  fun x f g => .inl (0, 49, .inl f),
  fun x f g => .inl (0, 49, .inl f),
  fun x f g => .inl (0, 6, .inl f),
  fun x f g => .inl (0, 6, .inl f),
  fun x f g => .inr (5, fRea x),
  fun x f g => .inl (0, 10, .inl f),
  fun x f g => .inl (0, 1024, .inl f),
  fun x f g => .inr (2, fHiv x),
  fun x f g => .inl (0, 50, .inl f),
  fun x f g => .inl (0, 24, .inl f),
  fun x f g => .inl (3, 6, .inr (.inr (.inr (.inr tSh)))),
  fun x f g => .inr (8, (fShe 64) x),
  fun x f g => .inl (1, 60, .inr (.inl g)),
  fun x f g => .inr (8, (fShe 66) x),
  fun x f g => .inl (1, 60, .inr (.inl g)),
  fun x f g => .inr (8, (fShe 68) x),
  fun x f g => .inl (1, 60, .inr (.inl g)),
  fun x f g => .inr (8, (fShe 70) x),
  fun x f g => .inl (1, 60, .inr (.inl g)),
  fun x f g => .inr (8, (fShe 72) x),
  fun x f g => .inl (1, 60, .inr (.inl g)),
  fun x f g => .inr (8, (fShe 74) x),
  fun x f g => .inl (1, 60, .inr (.inl g)),
  fun x f g => .inr (11, fMod x),
  fun x f g => .inl (0, 8, .inl f),
  fun x f g => .inl (0, 40, .inl f),
  fun x f g => .inl (0, 40, .inl f),
  fun x f g => .inl (0, 40, .inl f),
  fun x f g => .inl (0, 2401, .inl tDs),
  fun x f g => .inl (0, 49, .inl f),
  fun x f g => .inl (0, 49, .inl f),
  fun x f g => .inl (0, 49, .inl f),
  fun x f g => .inl (0, 49, .inl f),
  fun x f g => .inl (0, 120, .inl f),
  fun x f g => .inl (0, 120, .inl f),
  fun x f g => .inl (0, 6, .inl f),
  fun x f g => .inl (2, 49, .inl f),
  fun x f g => .inl (0, 5, .inl f),
  fun x f g => .inl (0, 5, .inl f),
  fun x f g => .inl (0, 10, .inl f),
  fun x f g => .inl (2, 1024, .inl f),
  fun x f g => .inl (0, 6, .inl f),
  fun x f g => .inl (0, 49, .inl f),
  fun x f g => .inl (0, 49, .inl f),
  fun x f g => .inl (0, 6, .inl f),
  fun x f g => .inl (0, 50, .inl f),
  fun x f g => .inl (0, 24, .inl f),
  fun x f g => .inl (0, 6, .inl f),
  fun x f g => .inl (0, 6, .inl f),
  fun x f g => .inl (1, 360, .inr (.inl g)),
  fun x f g => .inl (1, 60, .inr (.inl g))]
def tcell (a : Nat) (x f : Nat → Int32) (g : Nat → Int64) : jE := (tsh.getD a fun _ _ _ => jAbs) x f g
def tw (X A : Nat → Nat → Int32) (L : Nat → Nat → Int64) : jW := (104, fun k => tcell k (X k) (A k) (L k))
theorem vu_self {α : Type} (f : Nat → α) (k : Nat) : va_up f k (f k) = f := by
  funext j
  by_cases h : j = k
  · subst h; simp [va_up]
  · simp [va_up, h]
theorem vu_s {α : Type} (f : Nat → α) (k : Nat) (v : α) : va_up f k v k = v := by simp [va_up]
theorem vu_n {α : Type} (f : Nat → α) (k : Nat) (v : α) {j : Nat} (h : j ≠ k) : va_up f k v j = f j := by simp [va_up, h]
theorem vu_up {α : Type} (f : Nat → α) (k : Nat) (v u : α) : va_up (va_up f k v) k u = va_up f k u := by
  funext j
  by_cases h : j = k <;> simp [va_up, h]
theorem vu_comm {α : Type} (f : Nat → α) {k j : Nat} (v u : α) (h : k ≠ j) : va_up (va_up f k v) j u = va_up (va_up f j u) k v := by
  funext i
  by_cases h1 : i = k
  · subst h1; simp [va_up, h]
  · by_cases h2 : i = j
    · subst h2; simp [va_up, h1]
    · simp [va_up, h1, h2]
theorem ud_s (f : Nat → Int32) (k : Nat) (v : Int32) : upd f k v k = v := pk_us
theorem ud_n (f : Nat → Int32) (k : Nat) (v : Int32) {j : Nat} (h : j ≠ k) : upd f k v j = f j := pk_un h
theorem ud_self (f : Nat → Int32) (k : Nat) : upd f k (f k) = f := by
  funext j
  by_cases h : j = k
  · subst h; exact pk_us
  · exact pk_un h
theorem ud_ud (f : Nat → Int32) (k : Nat) (v u : Int32) : upd (upd f k v) k u = upd f k u := by
  funext j
  by_cases h : j = k
  · subst h; rw [pk_us, pk_us]
  · rw [pk_un h, pk_un h, pk_un h]
theorem tw_set (X A : Nat → Nat → Int32) (L : Nat → Nat → Int64) (a : Nat) (x f : Nat → Int32) (g : Nat → Int64) : ju (tw X A L) a (tcell a x f g) = tw (va_up X a x) (va_up A a f) (va_up L a g) := by
  refine Prod.ext rfl (funext fun k => ?_)
  show va_up (fun k => tcell k (X k) (A k) (L k)) a (tcell a x f g) k = tcell k (va_up X a x k) (va_up A a f k) (va_up L a g k)
  by_cases h : k = a
  · subst h; simp [va_up]
  · simp [va_up, h]
/-- where a comb may lie; a law; a shelf -/
def isK (K : Nat) : Prop := K = 39 ∨ K = 43 ∨ K = 47 ∨ K = 51
def isB (B : Nat) : Prop := B = 19 ∨ B = 27
def isSh (S : Nat) : Prop := S = 64 ∨ S = 66 ∨ S = 68 ∨ S = 70 ∨ S = 72 ∨ S = 74
theorem shK0 {K : Nat} (h : isK K) : ∀ x f g, tcell K x f g = .inr (0, fComb K x) := by rcases h with rfl | rfl | rfl | rfl <;> exact fun _ _ _ => rfl
theorem shK1 {K : Nat} (h : isK K) : ∀ x f g, tcell (K + 1) x f g = .inl (0, 49, .inl f) := by rcases h with rfl | rfl | rfl | rfl <;> exact fun _ _ _ => rfl
theorem shK2 {K : Nat} (h : isK K) : ∀ x f g, tcell (K + 2) x f g = .inl (0, 49, .inl f) := by rcases h with rfl | rfl | rfl | rfl <;> exact fun _ _ _ => rfl
theorem shK3 {K : Nat} (h : isK K) : ∀ x f g, tcell (K + 3) x f g = .inl (0, 49, .inl f) := by rcases h with rfl | rfl | rfl | rfl <;> exact fun _ _ _ => rfl
theorem shB0 {B : Nat} (h : isB B) : ∀ x f g, tcell B x f g = .inr (3, fLaw B x) := by rcases h with rfl | rfl <;> exact fun _ _ _ => rfl
theorem shB1 {B : Nat} (h : isB B) : ∀ x f g, tcell (B + 1) x f g = .inl (0, 120, .inl f) := by rcases h with rfl | rfl <;> exact fun _ _ _ => rfl
theorem shB2 {B : Nat} (h : isB B) : ∀ x f g, tcell (B + 2) x f g = .inl (0, 120, .inl f) := by rcases h with rfl | rfl <;> exact fun _ _ _ => rfl
theorem shB3 {B : Nat} (h : isB B) : ∀ x f g, tcell (B + 3) x f g = .inl (0, 61, .inl f) := by rcases h with rfl | rfl <;> exact fun _ _ _ => rfl
theorem shB4 {B : Nat} (h : isB B) : ∀ x f g, tcell (B + 4) x f g = .inl (0, 61, .inl f) := by rcases h with rfl | rfl <;> exact fun _ _ _ => rfl
theorem shB5 {B : Nat} (h : isB B) : ∀ x f g, tcell (B + 5) x f g = .inl (0, 61, .inl f) := by rcases h with rfl | rfl <;> exact fun _ _ _ => rfl
theorem shB6 {B : Nat} (h : isB B) : ∀ x f g, tcell (B + 6) x f g = .inl (0, 6, .inl f) := by rcases h with rfl | rfl <;> exact fun _ _ _ => rfl
theorem shB7 {B : Nat} (h : isB B) : ∀ x f g, tcell (B + 7) x f g = .inl (0, 120, .inl f) := by rcases h with rfl | rfl <;> exact fun _ _ _ => rfl
theorem shS0 {S : Nat} (h : isSh S) : ∀ x f g, tcell S x f g = .inr (8, fShe S x) := by rcases h with rfl | rfl | rfl | rfl | rfl | rfl <;> exact fun _ _ _ => rfl
theorem shS1 {S : Nat} (h : isSh S) : ∀ x f g, tcell (S + 1) x f g = .inl (1, 60, .inr (.inl g)) := by rcases h with rfl | rfl | rfl | rfl | rfl | rfl <;> exact fun _ _ _ => rfl
section TROWS
variable {scr : jScr} {own : String} {cc : ByteArray} {nL : Nat} {ret : Option FieldType} {d bc bs pc : Nat} {lv : List (Option Value)} {st : List Value} {X A : Nat → Nat → Int32} {L : Nat → Nat → Int64} {post : Option Value → jW → Prop}
theorem t_getI {idx a ci q : Nat} {F : (Nat → Int32) → List Value} {ft : FieldType} {fin : Bool} (hd : decode cc pc = .ok (.getfield idx, 3)) (hf : jFld own idx ci q ft fin) (hsh : ∀ x f g, tcell a x f g = .inr (ci, F x)) (hq : ∀ x, (F x)[q]? = some (.int (x q))) (k : jWP scr own cc nL ret d bc bs (pc + 3) lv (.int (X a q) :: st) (tw X A L) post) : jWP scr own cc nL ret d bc bs pc lv (.ref a :: st) (tw X A L) post := j_getfield hd hf (hsh (X a) (A a) (L a)) (hq _) k
theorem t_getR {idx a ci q b : Nat} {F : (Nat → Int32) → List Value} {ft : FieldType} {fin : Bool} (hd : decode cc pc = .ok (.getfield idx, 3)) (hf : jFld own idx ci q ft fin) (hsh : ∀ x f g, tcell a x f g = .inr (ci, F x)) (hq : (F (X a))[q]? = some (.ref b)) (k : jWP scr own cc nL ret d bc bs (pc + 3) lv (.ref b :: st) (tw X A L) post) : jWP scr own cc nL ret d bc bs pc lv (.ref a :: st) (tw X A L) post := j_getfield hd hf (hsh (X a) (A a) (L a)) hq k
theorem t_putI {idx a ci q : Nat} {F : (Nat → Int32) → List Value} {ft : FieldType} {v : Int32} (hd : decode cc pc = .ok (.putfield idx, 3)) (hf : jFld own idx ci q ft false) (hsh : ∀ x f g, tcell a x f g = .inr (ci, F x)) (hq : ∀ x v, (F x).set q (.int v) = F (upd x q v)) (hl : q < (F (X a)).length) (hn : narrow ft (.int v) = .int v) (hfit : fits ft (.int v) = true) (k : jWP scr own cc nL ret d bc bs (pc + 3) lv st (tw (va_up X a (upd (X a) q v)) A L) post) : jWP scr own cc nL ret d bc bs pc lv (.int v :: .ref a :: st) (tw X A L) post := by
  refine j_putfield hd hf (hsh (X a) (A a) (L a)) (fun _ => hn) (fun _ => hfit) hl ?_
  rw [hq, ← hsh (upd (X a) q v) (A a) (L a), tw_set, vu_self, vu_self]
  exact k
theorem t_putR {idx a ci q b : Nat} {F : (Nat → Int32) → List Value} {ft : FieldType} (hd : decode cc pc = .ok (.putfield idx, 3)) (hf : jFld own idx ci q ft false) (hsh : ∀ x f g, tcell a x f g = .inr (ci, F x)) (hq : ∀ x, (F x).set q (.ref b) = F (upd x q (nI b))) (hl : q < (F (X a)).length) (hn : ∀ a, narrow ft (.ref a) = .ref a) (hfit : ∀ a, fits ft (.ref a) = true) (k : jWP scr own cc nL ret d bc bs (pc + 3) lv st (tw (va_up X a (upd (X a) q (nI b))) A L) post) : jWP scr own cc nL ret d bc bs pc lv (.ref b :: .ref a :: st) (tw X A L) post := by
  refine j_putfield hd hf (hsh (X a) (A a) (L a)) (fun ad => hn (ad b)) (fun ad => hfit (ad b)) hl ?_
  rw [hq, ← hsh (upd (X a) q (nI b)) (A a) (L a), tw_set, vu_self, vu_self]
  exact k
theorem t_iaload {a n i : Nat} (hd : decode cc pc = .ok (.iaload, 1)) (hsh : ∀ x f g, tcell a x f g = .inl (0, n, .inl f)) (hi : i < n) (hn : n < 2 ^ 31) (k : jWP scr own cc nL ret d bc bs (pc + 1) lv (.int (A a i) :: st) (tw X A L) post) : jWP scr own cc nL ret d bc bs pc lv (.int (nI i) :: .ref a :: st) (tw X A L) post :=
  j_iaload hd (hsh (X a) (A a) (L a)) (vp_in_nI hi hn) (by rw [nI_clamp (Nat.lt_trans hi hn)]; exact k)
/-- a row of the shape's own -/
theorem t_ialoadT {a n i : Nat} {t : Nat → Int32} (hd : decode cc pc = .ok (.iaload, 1)) (hsh : ∀ x f g, tcell a x f g = .inl (0, n, .inl t)) (hi : i < n) (hn : n < 2 ^ 31) (k : jWP scr own cc nL ret d bc bs (pc + 1) lv (.int (t i) :: st) (tw X A L) post) : jWP scr own cc nL ret d bc bs pc lv (.int (nI i) :: .ref a :: st) (tw X A L) post :=
  j_iaload hd (hsh (X a) (A a) (L a)) (vp_in_nI hi hn) (by rw [nI_clamp (Nat.lt_trans hi hn)]; exact k)
theorem t_baload {a n i : Nat} (hd : decode cc pc = .ok (.baload, 1)) (hsh : ∀ x f g, tcell a x f g = .inl (2, n, .inl f)) (hi : i < n) (hn : n < 2 ^ 31) (k : jWP scr own cc nL ret d bc bs (pc + 1) lv (.int (A a i) :: st) (tw X A L) post) : jWP scr own cc nL ret d bc bs pc lv (.int (nI i) :: .ref a :: st) (tw X A L) post :=
  j_baload hd (hsh (X a) (A a) (L a)) (vp_in_nI hi hn) (by rw [nI_clamp (Nat.lt_trans hi hn)]; exact k)
theorem t_laload {a n i : Nat} (hd : decode cc pc = .ok (.laload, 1)) (hsh : ∀ x f g, tcell a x f g = .inl (1, n, .inr (.inl g))) (hi : i < n) (hn : n < 2 ^ 31) (k : jWP scr own cc nL ret d bc bs (pc + 1) lv (.long (L a i) :: st) (tw X A L) post) : jWP scr own cc nL ret d bc bs pc lv (.int (nI i) :: .ref a :: st) (tw X A L) post :=
  j_laload hd (hsh (X a) (A a) (L a)) (vp_in_nI hi hn) (by rw [nI_clamp (Nat.lt_trans hi hn)]; exact k)
theorem t_aaload {i : Nat} (hd : decode cc pc = .ok (.aaload, 1)) (hi : i < 6) (k : jWP scr own cc nL ret d bc bs (pc + 1) lv (.ref (64 + 2 * i) :: st) (tw X A L) post) : jWP scr own cc nL ret d bc bs pc lv (.int (nI i) :: .ref 63 :: st) (tw X A L) post :=
  j_aaload (n := 6) (f := tSh) hd rfl (vp_in_nI hi (by decide)) (by rw [nI_clamp (by omega)]; simp [tSh, hi]) k
theorem t_iastore {a n i : Nat} {v : Int32} (hd : decode cc pc = .ok (.iastore, 1)) (hsh : ∀ x f g, tcell a x f g = .inl (0, n, .inl f)) (hi : i < n) (hn : n < 2 ^ 31) (k : jWP scr own cc nL ret d bc bs (pc + 1) lv st (tw X (va_up A a (upd (A a) i v)) L) post) : jWP scr own cc nL ret d bc bs pc lv (.int v :: .int (nI i) :: .ref a :: st) (tw X A L) post := by
  refine j_iastore hd (hsh (X a) (A a) (L a)) (vp_in_nI hi hn) ?_
  rw [nI_clamp (Nat.lt_trans hi hn), ← hsh (X a) (upd (A a) i v) (L a), tw_set, vu_self, vu_self]
  exact k
theorem t_bastore {a n i : Nat} {v : Int32} (hd : decode cc pc = .ok (.bastore, 1)) (hsh : ∀ x f g, tcell a x f g = .inl (2, n, .inl f)) (hi : i < n) (hn : n < 2 ^ 31) (hv : v = 0 ∨ v = 1) (k : jWP scr own cc nL ret d bc bs (pc + 1) lv st (tw X (va_up A a (upd (A a) i v)) L) post) : jWP scr own cc nL ret d bc bs pc lv (.int v :: .int (nI i) :: .ref a :: st) (tw X A L) post := by
  refine j_bastore hd (hsh (X a) (A a) (L a)) (vp_in_nI hi hn) (by rcases hv with rfl | rfl <;> decide +kernel) ?_
  rw [nI_clamp (Nat.lt_trans hi hn), ← hsh (X a) (upd (A a) i v) (L a), tw_set, vu_self, vu_self]
  exact k
theorem t_lastore {a n i : Nat} {v : Int64} (hd : decode cc pc = .ok (.lastore, 1)) (hsh : ∀ x f g, tcell a x f g = .inl (1, n, .inr (.inl g))) (hi : i < n) (hn : n < 2 ^ 31) (k : jWP scr own cc nL ret d bc bs (pc + 1) lv st (tw X A (va_up L a (vp_updL (L a) i v))) post) : jWP scr own cc nL ret d bc bs pc lv (.long v :: .int (nI i) :: .ref a :: st) (tw X A L) post := by
  refine j_lastore hd (hsh (X a) (A a) (L a)) (vp_in_nI hi hn) ?_
  rw [nI_clamp (Nat.lt_trans hi hn), ← hsh (X a) (A a) (vp_updL (L a) i v), tw_set, vu_self, vu_self]
  exact k
end TROWS
