abbrev oS : Type := (Nat → Nat) × Int32 × (Nat → Int32)
/-- all orders, one place at a time -/
def ooI (f : Nat → oS → oS) (k used : Nat) : Nat → oS → oS
  | 0, s => s
  | p + 1, s => if isB1 used p = true then ooI f k used p s else f (used ||| 2 ^ p) (updN (ooI f k used p s).1 k p, (ooI f k used p s).2)
def ooF (m : Nat) (ou : (Nat → Nat) → Int32) : Nat → Nat → Nat → oS → oS
  | 0, _, _, s => (s.1, if ou s.1 ≤ s.2.1 then s.2.1 else ou s.1, if ou s.1 ≤ s.2.1 then s.2.2 else cpN (nIf s.1) s.2.2 m)
  | D + 1, k, used, s => ooI (ooF m ou D (k + 1)) k used m s
theorem orb_tab {u p : Nat} (hu : u < 32) (hp : p < 5) : nI u ||| (nI 1 <<< (nI p &&& 31)) = nI (u ||| 2 ^ p) ∧ (u ||| 2 ^ p) < 32 := by
  have q : (List.range 32).all (fun u => (List.range 5).all fun p => decide (nI u ||| (nI 1 <<< (nI p &&& 31)) = nI (u ||| 2 ^ p)) && decide ((u ||| 2 ^ p) < 32)) = true := by decide +kernel
  have q2 := List.all_eq_true.mp (List.all_eq_true.mp q u (List.mem_range.mpr hu)) p (List.mem_range.mpr hp)
  simp only [Bool.and_eq_true, decide_eq_true_eq] at q2
  exact q2
def orX (X : Nat → Nat → Int32) (y : Nat → Int32) (b : Int32) : Nat → Nat → Int32 := va_up (zX X y) 76 (upd (zX X y 76) 25 b)
def orA (A : Nat → Nat → Int32) (p : Nat → Nat) (q N Z : Nat → Int32) (c : cS) : Nat → Nat → Int32 := va_up (va_up (tE A N Z c) 90 (nIf p)) 91 q
section OX
variable {X A : Nat → Nat → Int32} {y N Z q q' N' Z' : Nat → Int32} {b b' : Int32} {p p' : Nat → Nat} {c c' : cS}
theorem orX_25 : orX X y b 76 25 = b := by unfold orX; rw [vu_s, ud_s]
theorem orX_n {i : Nat} (h : i ≠ 25) (h2 : i < 16 ∨ 20 < i) : orX X y b 76 i = X 76 i := by unfold orX; rw [vu_s, ud_n _ _ _ h, zX_n h2]
theorem orX_p : va_up (orX X y b) 76 (upd (orX X y b 76) 25 b') = orX X y b' := by unfold orX; rw [vu_up, vu_s, ud_ud]
theorem zX_orX {y' : Nat → Int32} : zX (orX X y b) y' = orX X y' b := by
  unfold orX zX
  simp only [vu_up, vu_s]
  refine congrArg _ (funext fun i => ?_)
  unfold upd
  by_cases h : i = 25
  · subst h; simp
  · by_cases h2 : 16 ≤ i ∧ i ≤ 20
    · simp [h, h2]
    · simp [h, h2]
theorem orX_z {b : Int32} : va_up X 76 (upd (X 76) 25 b) = orX X (X 76) b := by unfold orX; rw [zX_self]
theorem orA_90 : orA A p q N Z c 90 = nIf p := by unfold orA; rw [vu_n _ _ _ (by decide), vu_s]
theorem orA_91 : orA A p q N Z c 91 = q := vu_s _ _ _
theorem orA_84 : orA A p q N Z c 84 = c.1 := by unfold orA; rw [vu_n _ _ _ (by decide), vu_n _ _ _ (by decide), tE_84]
theorem orA_85 : orA A p q N Z c 85 = c.2 := by unfold orA; rw [vu_n _ _ _ (by decide), vu_n _ _ _ (by decide), tE_85]
theorem orA_n {i : Nat} (h : i ≠ 84 ∧ i ≠ 85 ∧ i ≠ 88 ∧ i ≠ 89 ∧ i ≠ 90 ∧ i ≠ 91) : orA A p q N Z c i = A i := by unfold orA; rw [vu_n _ _ _ h.2.2.2.2.2, vu_n _ _ _ h.2.2.2.2.1, tE_n _ _ _ _ h.1 h.2.1 h.2.2.1 h.2.2.2.1]
theorem orA_p90 : va_up (orA A p q N Z c) 90 (nIf p') = orA A p' q N Z c := by unfold orA; rw [vu_comm _ _ _ (by decide), vu_up]
theorem orA_p91 : va_up (orA A p q N Z c) 91 q' = orA A p q' N Z c := vu_up _ _ _ _
theorem orA_m : mA (orA A p q N Z c) c'.1 c'.2 = orA A p q N Z c' := by
  unfold orA
  rw [← mA_vu _ _ _ _ (by decide) (by decide), ← mA_vu _ _ _ _ (by decide) (by decide), tE_m]
theorem orA_t : mA (va_up (orA A p q N Z c) 88 N') c'.1 c'.2 = orA A p q N' Z c' := by
  unfold orA
  rw [vu_comm _ _ _ (show (91 : Nat) ≠ 88 by decide), vu_comm _ _ _ (show (90 : Nat) ≠ 88 by decide), ← mA_vu _ _ _ _ (by decide) (by decide), ← mA_vu _ _ _ _ (by decide) (by decide), tE_t]
theorem orA_e : eA (orA A p q N Z c) c'.1 c'.2 Z' = orA A p q N Z' c' := by
  unfold orA
  rw [← eA_vu _ _ _ _ _ (by decide) (by decide) (by decide), ← eA_vu _ _ _ _ _ (by decide) (by decide) (by decide), tE_e]
theorem orA_self {A : Nat → Nat → Int32} {p : Nat → Nat} (hp : A 90 = nIf p) : orA A p (A 91) (A 88) (A 89) (A 84, A 85) = A := by
  unfold orA
  rw [tE_self, ← hp, vu_self, vu_self]
theorem mrul_o {td : Bool} {tm : Nat} {tx : Nat → Nat} {na : Nat} {v : Nat → Nat} (h : mrul td tm tx na v X A) : mrul td tm tx na v (orX X y b) (orA A p q N Z c) :=
  mrul_c h (orX_n (by decide) (by decide)) (orX_n (by decide) (by decide)) (orA_n (by decide)) (orA_n (by decide))
end OX
section CT61
variable {d : Nat} {X A : Nat → Nat → Int32} {L : Nat → Nat → Int64} {w : jW} {tx v : Nat → Nat} {na tm : Nat} {td : Bool}

set_option maxHeartbeats 200000 in
set_option maxRecDepth 100000 in
theorem l_oo_told (hr : mrul td tm tx na v X A) (z1 : zb 49 (A 82)) (z2 : zb 49 (A 83)) (hw : ow (A 82)) {j ln : Nat} (hj : j < 6) {E : Nat → Int32} (hm : A 101 j = nI ln) (l60 : ln ≤ 60) (hE : ∀ i, i < ln → L 102 (60 * j + i) = (E i).toInt64) {T m : Nat} (hT : saC (saB na ln E) 30 0 = T) (hmT : m ≤ T) (hm5 : m ≤ 5) {a wn : Nat} (ha : a < na) (hwn : wn < 50) {s : oS} {y2 y3 : Int32} (hp : ∀ i, i < m → s.1 i < m) {post : Option Value → jW → Prop} {Z : Nat → Int32} (kk : ∀ (y N : Nat → Int32) (i : Nat) (x : Int32), jWP none RX11 cX11_ordersOn 11 none (d + 55) 0 0 75 [some (.ref 76), some (.int (nI j)), some (.int y2), some (.int y3), some (.int (nI m)), some (.int (nI a)), some (.int (nI wn)), some (.int (nI T)), some (.int x), some (.int (nI i)), none] [] (tw (orX X y s.2.1) (orA A s.1 s.2.2 N Z (ruS (RkM td tm tx v) (evp E s.1 m) (odp E s.1 m) (A 82, A 83) T).1) L) post) : ∀ (q i : Nat) (y N : Nat → Int32), i ≤ T → T - i < q → jWP none RX11 cX11_ordersOn 11 none (d + 55) 0 0 23 [some (.ref 76), some (.int (nI j)), some (.int y2), some (.int y3), some (.int (nI m)), some (.int (nI a)), some (.int (nI wn)), some (.int (nI T)), some (.int (bz (ruS (RkM td tm tx v) (evp E s.1 m) (odp E s.1 m) (A 82, A 83) i).2)), some (.int (nI i)), none] [] (tw (orX X y s.2.1) (orA A s.1 s.2.2 N Z (ruS (RkM td tm tx v) (evp E s.1 m) (odp E s.1 m) (A 82, A 83) i).1) L) (post) := by
  have hsa : ∀ i, i < T → saB na ln E i = true := fun i hi => saC_all (Nat.zero_le i) (by rw [hT]; exact hi)
  have hT30 : T ≤ 30 := by rw [← hT]; exact saC_le 30 0
  have na6 := hr.2.2.2.2.2.2.1
  have hpl : ∀ i, i < T → plc s.1 m i < T := fun i hi => by unfold plc; split; exact Nat.lt_of_lt_of_le (hp i (by assumption)) hmT; exact hi
  have hac : ∀ i, i < T → ∃ q, q < na ∧ E (2 * plc s.1 m i) = nI q := fun i hi => slA_acc na6 (saB_1 (hsa _ (hpl i hi))).2
  have hac0 : ∀ i, i < T → 0 ≤ evp E s.1 m i := fun i hi => by obtain ⟨q, hq, e⟩ := hac i hi; show 0 ≤ E (2 * plc s.1 m i); rw [e]; exact Int32.not_lt.mp (nI_pos (by omega))
  intro q
  induction q with
  | zero => intro i y N h1 h2; omega
  | succ q ih =>
    intro i y N hi hq
    obtain ⟨hz, hwo⟩ := ruS_ok (Rk := (RkM td tm tx v)) (s := odp E s.1 m) (c := (A 82, A 83)) ⟨z1, z2⟩ hw i (fun j hj => hac0 j (by omega))
    refine j_iload dX11_ordersOn_23 rfl ?_
    refine j_iload dX11_ordersOn_25 rfl ?_
    refine jn_icmp_ge (tgt := 75) dX11_ordersOn_27 (by decide) (by omega) (by omega) (fun h27 => ?_) (fun h27 => ?_)
    · obtain rfl : i = T := by omega
      exact kk y N _ _
    · obtain ⟨u, hu, hue⟩ := hac i h27
      have h2i := (saB_1 (hsa _ (hpl i h27))).1
      refine j_iload dX11_ordersOn_30 rfl ?_
      refine j_if_eq (tgt := 75) dX11_ordersOn_32 (by decide) (fun h32 => ?_) (fun h32 => ?_)
      · have h32 := bz_f h32
        have hd := ru_dead' h32 (N := T) (by omega)
        rw [← hd.1]
        exact kk y N _ _
      · have h32 := bz_t h32
        refine j_aload_n dX11_ordersOn_35 rfl rfl ?_
        refine j_iload_n dX11_ordersOn_36 rfl rfl ?_
        refine j_iload dX11_ordersOn_37 rfl ?_
        refine j_iload dX11_ordersOn_39 rfl ?_
        refine jn_icmp_ge (tgt := 54) dX11_ordersOn_41 (by decide) (by omega) (by omega) (fun h41 => ?_) (fun h41 => ?_)
        · refine j_iload dX11_ordersOn_54 rfl ?_
          refine j_ats (st' := [.int (nI (plc s.1 m i)), .int (nI j), .ref 76]) (by unfold plc; rw [if_neg (by omega)]) ?_
          refine j_callV [.int _, .int _] [] dX11_ordersOn_56 jlk_X11_234 rfl rfl rfl rfl (Nat.le_of_ble_eq_true rfl) (m_sellsAt (i := plc s.1 m i) (mrul_o (y := y) (b := s.2.1) (p := s.1) (q := s.2.2) (N := N) (Z := Z) hr) (by rw [orA_84]; exact hwo) hj l60 hE h2i hue hu) (fun r9 w9 h9 => ?_)
          obtain ⟨rfl, y9, N9, rfl⟩ := h9
          rw [orA_84, orA_85, zX_orX]
          refine j_atw (w' := tw (orX X y9 s.2.1) (orA A s.1 s.2.2 N9 Z (seS (RkM td tm tx v) (ruS (RkM td tm tx v) (evp E s.1 m) (odp E s.1 m) (A 82, A 83) i).1 (E (2 * plc s.1 m i)) (E (2 * plc s.1 m i + 1)))) L) (tw_eq rfl orA_t rfl) ?_
          refine j_ats (st' := [.int (plP (seP (RkM td tm tx v) (ruS (RkM td tm tx v) (evp E s.1 m) (odp E s.1 m) (A 82, A 83) i).1 (E (2 * plc s.1 m i)) (E (2 * plc s.1 m i + 1))))]) rfl ?_
          refine j_ats (st' := [.int _]) rfl ?_
          refine j_if_lt (tgt := 66) dX11_ordersOn_59 (by decide) (fun h59 => ?_) (fun h59 => ?_)
          · have hnone := plP_neg' h59 (fun q hq => seP_lt hq)
            refine j_iconst (v := nI 0) dX11_ordersOn_66 rfl ?_
            refine j_istore (lv' := [some (.ref 76), some (.int _), some (.int _), some (.int _), some (.int _), some (.int _), some (.int _), some (.int _), some (.int _), some (.int _), none]) dX11_ordersOn_67 (by decide) rfl ?_
            refine jn_iinc (lv' := [some (.ref 76), some (.int _), some (.int _), some (.int _), some (.int _), some (.int _), some (.int _), some (.int _), some (.int _), some (.int _), none]) dX11_ordersOn_69 rfl (by decide) rfl ?_
            refine j_goto (tgt := 23) dX11_ordersOn_72 (by decide) ?_
            have e0 : (seS (RkM td tm tx v) (ruS (RkM td tm tx v) (evp E s.1 m) (odp E s.1 m) (A 82, A 83) i).1 (E (2 * plc s.1 m i)) (E (2 * plc s.1 m i + 1))) = (ruS (RkM td tm tx v) (evp E s.1 m) (odp E s.1 m) (A 82, A 83) i).1 := ru_none (a := evp E s.1 m) (s := odp E s.1 m) hnone
            have e1 : (ruS (RkM td tm tx v) (evp E s.1 m) (odp E s.1 m) (A 82, A 83) (i + 1)) = ((ruS (RkM td tm tx v) (evp E s.1 m) (odp E s.1 m) (A 82, A 83) i).1, false) := by have q := ru_t h32; rw [q]; refine Prod.ext e0 ?_; show ((seP (RkM td tm tx v) (ruS (RkM td tm tx v) (evp E s.1 m) (odp E s.1 m) (A 82, A 83) i).1 (E (2 * plc s.1 m i)) (E (2 * plc s.1 m i + 1)))).isSome = false; rw [hnone]; rfl
            refine j_sub ?_ (j_atw ?_ (ih (i + 1) y9 N9 (by omega) (by omega)))
            · rw [e1]; exact ⟨rfl, rfl, rfl, rfl, rfl, rfl, rfl, rfl, rfl, rfl, trivial⟩
            · rw [e1, e0]
          · have hsome := plP_pos (Int32.not_lt.mp h59)
            refine j_iconst (v := nI 1) dX11_ordersOn_62 rfl ?_
            refine j_goto (tgt := 67) dX11_ordersOn_63 (by decide) ?_
            refine j_istore (lv' := [some (.ref 76), some (.int _), some (.int _), some (.int _), some (.int _), some (.int _), some (.int _), some (.int _), some (.int _), some (.int _), none]) dX11_ordersOn_67 (by decide) rfl ?_
            refine jn_iinc (lv' := [some (.ref 76), some (.int _), some (.int _), some (.int _), some (.int _), some (.int _), some (.int _), some (.int _), some (.int _), some (.int _), none]) dX11_ordersOn_69 rfl (by decide) rfl ?_
            refine j_goto (tgt := 23) dX11_ordersOn_72 (by decide) ?_
            have e1 : (ruS (RkM td tm tx v) (evp E s.1 m) (odp E s.1 m) (A 82, A 83) (i + 1)) = ((seS (RkM td tm tx v) (ruS (RkM td tm tx v) (evp E s.1 m) (odp E s.1 m) (A 82, A 83) i).1 (E (2 * plc s.1 m i)) (E (2 * plc s.1 m i + 1))), true) := by have q := ru_t h32; rw [q]; exact Prod.ext rfl hsome
            refine j_sub ?_ (j_atw ?_ (ih (i + 1) y9 N9 (by omega) (by omega)))
            · rw [e1]; exact ⟨rfl, rfl, rfl, rfl, rfl, rfl, rfl, rfl, rfl, rfl, trivial⟩
            · rw [e1]
        · refine j_aload_n dX11_ordersOn_44 rfl rfl ?_
          refine t_getR (b := 90) dX11_ordersOn_45 jfl_X11_52 (fun _ _ _ => rfl) rfl ?_
          refine j_iload dX11_ordersOn_48 rfl ?_
          refine t_iaload dX11_ordersOn_50 (fun _ _ _ => rfl) (by omega) (by decide) ?_
          refine j_topE (e' := nI (s.1 i)) (by rw [orA_90]; rfl) ?_
          refine j_goto (tgt := 56) dX11_ordersOn_51 (by decide) ?_
          refine j_ats (st' := [.int (nI (plc s.1 m i)), .int (nI j), .ref 76]) (by unfold plc; rw [if_pos h41]) ?_
          refine j_callV [.int _, .int _] [] dX11_ordersOn_56 jlk_X11_234 rfl rfl rfl rfl (Nat.le_of_ble_eq_true rfl) (m_sellsAt (i := plc s.1 m i) (mrul_o (y := y) (b := s.2.1) (p := s.1) (q := s.2.2) (N := N) (Z := Z) hr) (by rw [orA_84]; exact hwo) hj l60 hE h2i hue hu) (fun r9 w9 h9 => ?_)
          obtain ⟨rfl, y9, N9, rfl⟩ := h9
          rw [orA_84, orA_85, zX_orX]
          refine j_atw (w' := tw (orX X y9 s.2.1) (orA A s.1 s.2.2 N9 Z (seS (RkM td tm tx v) (ruS (RkM td tm tx v) (evp E s.1 m) (odp E s.1 m) (A 82, A 83) i).1 (E (2 * plc s.1 m i)) (E (2 * plc s.1 m i + 1)))) L) (tw_eq rfl orA_t rfl) ?_
          refine j_ats (st' := [.int (plP (seP (RkM td tm tx v) (ruS (RkM td tm tx v) (evp E s.1 m) (odp E s.1 m) (A 82, A 83) i).1 (E (2 * plc s.1 m i)) (E (2 * plc s.1 m i + 1))))]) rfl ?_
          refine j_ats (st' := [.int _]) rfl ?_
          refine j_if_lt (tgt := 66) dX11_ordersOn_59 (by decide) (fun h59 => ?_) (fun h59 => ?_)
          · have hnone := plP_neg' h59 (fun q hq => seP_lt hq)
            refine j_iconst (v := nI 0) dX11_ordersOn_66 rfl ?_
            refine j_istore (lv' := [some (.ref 76), some (.int _), some (.int _), some (.int _), some (.int _), some (.int _), some (.int _), some (.int _), some (.int _), some (.int _), none]) dX11_ordersOn_67 (by decide) rfl ?_
            refine jn_iinc (lv' := [some (.ref 76), some (.int _), some (.int _), some (.int _), some (.int _), some (.int _), some (.int _), some (.int _), some (.int _), some (.int _), none]) dX11_ordersOn_69 rfl (by decide) rfl ?_
            refine j_goto (tgt := 23) dX11_ordersOn_72 (by decide) ?_
            have e0 : (seS (RkM td tm tx v) (ruS (RkM td tm tx v) (evp E s.1 m) (odp E s.1 m) (A 82, A 83) i).1 (E (2 * plc s.1 m i)) (E (2 * plc s.1 m i + 1))) = (ruS (RkM td tm tx v) (evp E s.1 m) (odp E s.1 m) (A 82, A 83) i).1 := ru_none (a := evp E s.1 m) (s := odp E s.1 m) hnone
            have e1 : (ruS (RkM td tm tx v) (evp E s.1 m) (odp E s.1 m) (A 82, A 83) (i + 1)) = ((ruS (RkM td tm tx v) (evp E s.1 m) (odp E s.1 m) (A 82, A 83) i).1, false) := by have q := ru_t h32; rw [q]; refine Prod.ext e0 ?_; show ((seP (RkM td tm tx v) (ruS (RkM td tm tx v) (evp E s.1 m) (odp E s.1 m) (A 82, A 83) i).1 (E (2 * plc s.1 m i)) (E (2 * plc s.1 m i + 1)))).isSome = false; rw [hnone]; rfl
            refine j_sub ?_ (j_atw ?_ (ih (i + 1) y9 N9 (by omega) (by omega)))
            · rw [e1]; exact ⟨rfl, rfl, rfl, rfl, rfl, rfl, rfl, rfl, rfl, rfl, trivial⟩
            · rw [e1, e0]
          · have hsome := plP_pos (Int32.not_lt.mp h59)
            refine j_iconst (v := nI 1) dX11_ordersOn_62 rfl ?_
            refine j_goto (tgt := 67) dX11_ordersOn_63 (by decide) ?_
            refine j_istore (lv' := [some (.ref 76), some (.int _), some (.int _), some (.int _), some (.int _), some (.int _), some (.int _), some (.int _), some (.int _), some (.int _), none]) dX11_ordersOn_67 (by decide) rfl ?_
            refine jn_iinc (lv' := [some (.ref 76), some (.int _), some (.int _), some (.int _), some (.int _), some (.int _), some (.int _), some (.int _), some (.int _), some (.int _), none]) dX11_ordersOn_69 rfl (by decide) rfl ?_
            refine j_goto (tgt := 23) dX11_ordersOn_72 (by decide) ?_
            have e1 : (ruS (RkM td tm tx v) (evp E s.1 m) (odp E s.1 m) (A 82, A 83) (i + 1)) = ((seS (RkM td tm tx v) (ruS (RkM td tm tx v) (evp E s.1 m) (odp E s.1 m) (A 82, A 83) i).1 (E (2 * plc s.1 m i)) (E (2 * plc s.1 m i + 1))), true) := by have q := ru_t h32; rw [q]; exact Prod.ext rfl hsome
            refine j_sub ?_ (j_atw ?_ (ih (i + 1) y9 N9 (by omega) (by omega)))
            · rw [e1]; exact ⟨rfl, rfl, rfl, rfl, rfl, rfl, rfl, rfl, rfl, rfl, trivial⟩
            · rw [e1]

set_option maxHeartbeats 200000 in
set_option maxRecDepth 100000 in
theorem l_oo_copy {j m a wn T : Nat} (hm5 : m ≤ 5) {p : Nat → Nat} {q N Z : Nat → Int32} {c : cS} {b : Int32} {y : Nat → Int32} {y2 y3 x vb : Int32} : ∀ (f i : Nat), i ≤ m → m - i < f → jWP none RX11 cX11_ordersOn 11 none (d + 55) 0 0 108 [some (.ref 76), some (.int (nI j)), some (.int y2), some (.int y3), some (.int (nI m)), some (.int (nI a)), some (.int (nI wn)), some (.int (nI T)), some (.int x), some (.int vb), some (.int (nI i))] [] (tw (orX X y b) (orA A p (cpN (nIf p) q i) N Z c) L) (jRv (tw (orX X y b) (orA A p (cpN (nIf p) q m) N Z c) L)) := by
  intro f
  induction f with
  | zero => intro i h1 h2; omega
  | succ f ih =>
    intro i hi hf
    refine j_iload dX11_ordersOn_108 rfl ?_
    refine j_iload dX11_ordersOn_110 rfl ?_
    refine jn_icmp_ge (tgt := 135) dX11_ordersOn_112 (by decide) (by omega) (by omega) (fun h112 => ?_) (fun h112 => ?_)
    · refine j_return dX11_ordersOn_135 rfl ?_
      obtain rfl : i = m := by omega
      exact ⟨rfl, rfl⟩
    · refine j_aload_n dX11_ordersOn_115 rfl rfl ?_
      refine t_getR (b := 91) dX11_ordersOn_116 jfl_X11_55 (fun _ _ _ => rfl) rfl ?_
      refine j_iload dX11_ordersOn_119 rfl ?_
      refine j_aload_n dX11_ordersOn_121 rfl rfl ?_
      refine t_getR (b := 90) dX11_ordersOn_122 jfl_X11_52 (fun _ _ _ => rfl) rfl ?_
      refine j_iload dX11_ordersOn_125 rfl ?_
      refine t_iaload dX11_ordersOn_127 (fun _ _ _ => rfl) (by omega) (by decide) ?_
      refine t_iastore dX11_ordersOn_128 (fun _ _ _ => rfl) (by omega) (by decide) ?_
      refine jn_iinc (lv' := [some (.ref 76), some (.int _), some (.int _), some (.int _), some (.int _), some (.int _), some (.int _), some (.int _), some (.int _), some (.int _), some (.int _)]) dX11_ordersOn_129 rfl (by decide) rfl ?_
      refine j_goto (tgt := 108) dX11_ordersOn_132 (by decide) ?_
      rw [orA_91, orA_90, cpN_s, orA_p91]
      exact ih (i + 1) (by omega) (by omega)

set_option maxHeartbeats 200000 in
set_option maxRecDepth 100000 in
theorem m_oo_0 (hr : mrul td tm tx na v X A) (z1 : zb 49 (A 82)) (z2 : zb 49 (A 83)) (hw : ow (A 82)) {j ln : Nat} (hj : j < 6) {E : Nat → Int32} (hm : A 101 j = nI ln) (l60 : ln ≤ 60) (hE : ∀ i, i < ln → L 102 (60 * j + i) = (E i).toInt64) {T m : Nat} (hT : saC (saB na ln E) 30 0 = T) (hmT : m ≤ T) (hm5 : m ≤ 5) {a wn : Nat} (ha : a < na) (hwn : wn < 50) {s : oS} {u : Nat} {y N Z : Nat → Int32} {c : cS} (hz : zb 49 c.1 ∧ zb 49 c.2) (hp : ∀ i, i < m → s.1 i < m) {k : Nat} (hk : k = m) : jMet (d + 55) yX11_ordersOn cX11_ordersOn 11 none 0 0 [.ref 76, .int (nI j), .int (nI k), .int (nI u), .int (nI m), .int (nI a), .int (nI wn)] (tw (orX X y s.2.1) (orA A s.1 s.2.2 N Z c) L) ((fun z w => z = none ∧ ∃ (y N Z : Nat → Int32) (c : cS), (zb 49 c.1 ∧ zb 49 c.2) ∧ w = tw (orX X y (ooF m (fun p => balS (ouC (RkM td tm tx v) E p m T wn (A 82, A 83)).1 (ouC (RkM td tm tx v) E p m T wn (A 82, A 83)).2 (nI a) 49) 0 k u s).2.1) (orA A (ooF m (fun p => balS (ouC (RkM td tm tx v) E p m T wn (A 82, A 83)).1 (ouC (RkM td tm tx v) E p m T wn (A 82, A 83)).2 (nI a) 49) 0 k u s).1 (ooF m (fun p => balS (ouC (RkM td tm tx v) E p m T wn (A 82, A 83)).1 (ouC (RkM td tm tx v) E p m T wn (A 82, A 83)).2 (nI a) 49) 0 k u s).2.2 N Z c) L)) := by
  refine jMet_of (by decide) (Nat.le_of_ble_eq_true rfl) none (Or.inl rfl) ?_
  show jWP none RX11 cX11_ordersOn 11 none (d + 55) 0 0 0 [some (.ref 76), some (.int (nI j)), some (.int (nI k)), some (.int (nI u)), some (.int (nI m)), some (.int (nI a)), some (.int (nI wn)), none, none, none, none] [] (tw (orX X y s.2.1) (orA A s.1 s.2.2 N Z c) L) ((fun z w => z = none ∧ ∃ (y N Z : Nat → Int32) (c : cS), (zb 49 c.1 ∧ zb 49 c.2) ∧ w = tw (orX X y (ooF m (fun p => balS (ouC (RkM td tm tx v) E p m T wn (A 82, A 83)).1 (ouC (RkM td tm tx v) E p m T wn (A 82, A 83)).2 (nI a) 49) 0 k u s).2.1) (orA A (ooF m (fun p => balS (ouC (RkM td tm tx v) E p m T wn (A 82, A 83)).1 (ouC (RkM td tm tx v) E p m T wn (A 82, A 83)).2 (nI a) 49) 0 k u s).1 (ooF m (fun p => balS (ouC (RkM td tm tx v) E p m T wn (A 82, A 83)).1 (ouC (RkM td tm tx v) E p m T wn (A 82, A 83)).2 (nI a) 49) 0 k u s).2.2 N Z c) L))
  have hsa : ∀ i, i < T → saB na ln E i = true := fun i hi => saC_all (Nat.zero_le i) (by rw [hT]; exact hi)
  have hT30 : T ≤ 30 := by rw [← hT]; exact saC_le 30 0
  have na6 := hr.2.2.2.2.2.2.1
  have hpl : ∀ i, i < T → plc s.1 m i < T := fun i hi => by unfold plc; split; exact Nat.lt_of_lt_of_le (hp i (by assumption)) hmT; exact hi
  have hac0 : ∀ i, i < T → 0 ≤ evp E s.1 m i := fun i hi => by obtain ⟨q, hq, e⟩ := slA_acc na6 (saB_1 (hsa _ (hpl i hi))).2; show 0 ≤ E (2 * plc s.1 m i); rw [e]; exact Int32.not_lt.mp (nI_pos (by omega))
  have hwo := ruS_ok (Rk := (RkM td tm tx v)) (s := odp E s.1 m) (c := (A 82, A 83)) ⟨z1, z2⟩ hw T (fun j hj => hac0 j hj)
  have hzo : zb 49 (ouC (RkM td tm tx v) E s.1 m T wn (A 82, A 83)).1 ∧ zb 49 (ouC (RkM td tm tx v) E s.1 m T wn (A 82, A 83)).2 := winS_z hwo.1.1 hwo.1.2 _
  refine j_iload_n dX11_ordersOn_0 rfl rfl ?_
  refine j_iload dX11_ordersOn_1 rfl ?_
  refine jn_icmp_ne (tgt := 136) dX11_ordersOn_3 (by decide) (by omega) (by omega) (fun h3 => absurd h3 (by omega)) (fun h3 => ?_)
  refine j_aload_n dX11_ordersOn_6 rfl rfl ?_
  refine j_callVv [] [] dX11_ordersOn_7 jlk_X11_140 rfl rfl rfl rfl (Nat.le_of_ble_eq_true rfl) (m_begins1 (by rw [orA_n (by decide)]; exact z1) (by rw [orA_n (by decide)]; exact z2) (by rw [orA_84]; exact hz.1) (by rw [orA_85]; exact hz.2)) ?_
  refine j_aload_n dX11_ordersOn_10 rfl rfl ?_
  refine j_iload_n dX11_ordersOn_11 rfl rfl ?_
  refine j_callVi [.int _] [] dX11_ordersOn_12 jlk_X11_231 rfl rfl rfl rfl (Nat.le_of_ble_eq_true rfl) (m_salesOf (by rw [orX_n (by decide) (by decide)]; exact hr.2.2.2.2.2.1) hr.2.2.2.2.2.2.1 hj (ln := ln) (E := E) (by rw [mA_n _ _ _ (by decide) (by decide), orA_n (by decide)]; exact hm) l60 hE) ?_
  rw [hT]
  refine j_istore (lv' := [some (.ref 76), some (.int _), some (.int _), some (.int _), some (.int _), some (.int _), some (.int _), some (.int _), none, none, none]) dX11_ordersOn_15 (by decide) rfl ?_
  refine j_iconst (v := nI 1) dX11_ordersOn_17 rfl ?_
  refine j_istore (lv' := [some (.ref 76), some (.int _), some (.int _), some (.int _), some (.int _), some (.int _), some (.int _), some (.int _), some (.int _), none, none]) dX11_ordersOn_18 (by decide) rfl ?_
  refine j_iconst (v := nI 0) dX11_ordersOn_20 rfl ?_
  refine j_istore (lv' := [some (.ref 76), some (.int _), some (.int _), some (.int _), some (.int _), some (.int _), some (.int _), some (.int _), some (.int _), some (.int _), none]) dX11_ordersOn_21 (by decide) rfl ?_
  refine j_atw (congrArg (fun z => tw _ z L) (show mA (orA A s.1 s.2.2 N Z c) (orA A s.1 s.2.2 N Z c 82) (orA A s.1 s.2.2 N Z c 83) = orA A s.1 s.2.2 N Z (A 82, A 83) from by rw [orA_n (i := 82) (by decide), orA_n (i := 83) (by decide)]; exact orA_m (c' := (A 82, A 83)))) (l_oo_told (s := s) hr z1 z2 hw hj hm l60 hE hT hmT hm5 ha hwn hp ?_ (T + 1) 0 y N (Nat.zero_le _) (by omega))
  intro y N i x
  refine j_aload_n dX11_ordersOn_75 rfl rfl ?_
  refine j_iload dX11_ordersOn_76 rfl ?_
  refine j_callV [.int _] [] dX11_ordersOn_78 jlk_X11_246 rfl rfl rfl rfl (Nat.le_of_ble_eq_true rfl) (m_winters (by rw [orA_84]; exact hwo.2) (by omega)) (fun r9 w9 h9 => ?_)
  obtain ⟨rfl, Z9, rfl⟩ := h9
  rw [orA_84, orA_85, orA_e]
  refine j_ats (st' := [.int _]) rfl ?_
  refine j_pop dX11_ordersOn_81 rfl ?_
  refine j_aload_n dX11_ordersOn_82 rfl rfl ?_
  refine j_iload dX11_ordersOn_83 rfl ?_
  refine j_callVi [.int _] [] dX11_ordersOn_85 jlk_X11_143 rfl rfl rfl rfl (Nat.le_of_ble_eq_true rfl) (m_balanceOf) ?_
  rw [orA_84, orA_85]
  refine j_istore (lv' := [some (.ref 76), some (.int _), some (.int _), some (.int _), some (.int _), some (.int _), some (.int _), some (.int _), some (.int _), some (.int _), none]) dX11_ordersOn_88 (by decide) rfl ?_
  refine j_iload dX11_ordersOn_90 rfl ?_
  refine j_aload_n dX11_ordersOn_92 rfl rfl ?_
  refine t_getI dX11_ordersOn_93 jfl_X11_251 (fun _ _ _ => rfl) (fun _ => rfl) ?_
  refine j_topE (e' := s.2.1) orX_25 ?_
  refine j_icmp_le (tgt := 135) dX11_ordersOn_96 (by decide) (fun h96 => ?_) (fun h96 => ?_)
  · refine j_return dX11_ordersOn_135 rfl ?_
    have e : (ooF m (fun p => balS (ouC (RkM td tm tx v) E p m T wn (A 82, A 83)).1 (ouC (RkM td tm tx v) E p m T wn (A 82, A 83)).2 (nI a) 49) 0 k u s) = s := by
      show (s.1, if _ then _ else _, if _ then _ else _) = _
      rw [if_pos (show balS (ouC (RkM td tm tx v) E s.1 m T wn (A 82, A 83)).1 (ouC (RkM td tm tx v) E s.1 m T wn (A 82, A 83)).2 (nI a) 49 ≤ s.2.1 from h96), if_pos (show balS (ouC (RkM td tm tx v) E s.1 m T wn (A 82, A 83)).1 (ouC (RkM td tm tx v) E s.1 m T wn (A 82, A 83)).2 (nI a) 49 ≤ s.2.1 from h96)]
    rw [e]
    exact ⟨rfl, y, N, Z9, (ouC (RkM td tm tx v) E s.1 m T wn (A 82, A 83)), hzo, rfl⟩
  · refine j_aload_n dX11_ordersOn_99 rfl rfl ?_
    refine j_iload dX11_ordersOn_100 rfl ?_
    refine t_putI dX11_ordersOn_102 jfl_X11_251 (fun _ _ _ => rfl) (fun _ _ => rfl) (Nat.le_of_ble_eq_true rfl) rfl rfl ?_
    rw [orX_p]
    refine j_iconst (v := nI 0) dX11_ordersOn_105 rfl ?_
    refine j_istore (lv' := [some (.ref 76), some (.int _), some (.int _), some (.int _), some (.int _), some (.int _), some (.int _), some (.int _), some (.int _), some (.int _), some (.int _)]) dX11_ordersOn_106 (by decide) rfl ?_
    refine j_post (j_atw (congrArg (fun z => tw _ z L) (show orA A s.1 s.2.2 N Z9 _ = orA A s.1 (cpN (nIf s.1) s.2.2 0) N Z9 _ from by rw [cpN_0])) (l_oo_copy hm5 (m + 1) 0 (Nat.zero_le _) (by omega))) ?_
    rintro z w ⟨rfl, rfl⟩
    have e : (ooF m (fun p => balS (ouC (RkM td tm tx v) E p m T wn (A 82, A 83)).1 (ouC (RkM td tm tx v) E p m T wn (A 82, A 83)).2 (nI a) 49) 0 k u s) = (s.1, balS (ouC (RkM td tm tx v) E s.1 m T wn (A 82, A 83)).1 (ouC (RkM td tm tx v) E s.1 m T wn (A 82, A 83)).2 (nI a) 49, cpN (nIf s.1) s.2.2 m) := by
      show (s.1, if _ then _ else _, if _ then _ else _) = _
      rw [if_neg (show ¬ balS (ouC (RkM td tm tx v) E s.1 m T wn (A 82, A 83)).1 (ouC (RkM td tm tx v) E s.1 m T wn (A 82, A 83)).2 (nI a) 49 ≤ s.2.1 from h96), if_neg (show ¬ balS (ouC (RkM td tm tx v) E s.1 m T wn (A 82, A 83)).1 (ouC (RkM td tm tx v) E s.1 m T wn (A 82, A 83)).2 (nI a) 49 ≤ s.2.1 from h96)]
    rw [e]
    exact ⟨rfl, y, N, Z9, (ouC (RkM td tm tx v) E s.1 m T wn (A 82, A 83)), hzo, rfl⟩

set_option maxHeartbeats 200000 in
set_option maxRecDepth 100000 in
theorem l_oo_n {E : Nat → Int32} {j T m k a wn e D u : Nat} (hm5 : m ≤ 5) (hkm : k < m) (hu : u < 32) (ih : ∀ (u : Nat) (s : oS) (y N Z : Nat → Int32) (c : cS), u < 32 → (zb 49 c.1 ∧ zb 49 c.2) → (∀ i, i < k + 1 → s.1 i < m) → jMet (d + e) yX11_ordersOn cX11_ordersOn 11 none 0 0 [.ref 76, .int (nI j), .int (nI (k + 1)), .int (nI u), .int (nI m), .int (nI a), .int (nI wn)] (tw (orX X y s.2.1) (orA A s.1 s.2.2 N Z c) L) ((fun z w => z = none ∧ ∃ (y N Z : Nat → Int32) (c : cS), (zb 49 c.1 ∧ zb 49 c.2) ∧ w = tw (orX X y (ooF m (fun p => balS (ouC (RkM td tm tx v) E p m T wn (A 82, A 83)).1 (ouC (RkM td tm tx v) E p m T wn (A 82, A 83)).2 (nI a) 49) D (k + 1) u s).2.1) (orA A (ooF m (fun p => balS (ouC (RkM td tm tx v) E p m T wn (A 82, A 83)).1 (ouC (RkM td tm tx v) E p m T wn (A 82, A 83)).2 (nI a) 49) D (k + 1) u s).1 (ooF m (fun p => balS (ouC (RkM td tm tx v) E p m T wn (A 82, A 83)).1 (ouC (RkM td tm tx v) E p m T wn (A 82, A 83)).2 (nI a) 49) D (k + 1) u s).2.2 N Z c) L)) ∧ ∀ i, i < k + 1 → (ooF m (fun p => balS (ouC (RkM td tm tx v) E p m T wn (A 82, A 83)).1 (ouC (RkM td tm tx v) E p m T wn (A 82, A 83)).2 (nI a) 49) D (k + 1) u s).1 i < m) {s : oS} (hp : ∀ i, i < k → s.1 i < m) : ∀ (q p : Nat) (y N Z : Nat → Int32) (c : cS), p ≤ m → m - p < q → (zb 49 c.1 ∧ zb 49 c.2) → (∀ i, i < k → (ooI (ooF m (fun p => balS (ouC (RkM td tm tx v) E p m T wn (A 82, A 83)).1 (ouC (RkM td tm tx v) E p m T wn (A 82, A 83)).2 (nI a) 49) D (k + 1)) k u p s).1 i < m) → jWP none RX11 cX11_ordersOn 11 none (d + e + 1) 0 0 139 [some (.ref 76), some (.int (nI j)), some (.int (nI k)), some (.int (nI u)), some (.int (nI m)), some (.int (nI a)), some (.int (nI wn)), some (.int (nI p)), none, none, none] [] (tw (orX X y (ooI (ooF m (fun p => balS (ouC (RkM td tm tx v) E p m T wn (A 82, A 83)).1 (ouC (RkM td tm tx v) E p m T wn (A 82, A 83)).2 (nI a) 49) D (k + 1)) k u p s).2.1) (orA A (ooI (ooF m (fun p => balS (ouC (RkM td tm tx v) E p m T wn (A 82, A 83)).1 (ouC (RkM td tm tx v) E p m T wn (A 82, A 83)).2 (nI a) 49) D (k + 1)) k u p s).1 (ooI (ooF m (fun p => balS (ouC (RkM td tm tx v) E p m T wn (A 82, A 83)).1 (ouC (RkM td tm tx v) E p m T wn (A 82, A 83)).2 (nI a) 49) D (k + 1)) k u p s).2.2 N Z c) L) ((fun z w => (z = none ∧ ∃ (y N Z : Nat → Int32) (c : cS), (zb 49 c.1 ∧ zb 49 c.2) ∧ w = tw (orX X y (ooI (ooF m (fun p => balS (ouC (RkM td tm tx v) E p m T wn (A 82, A 83)).1 (ouC (RkM td tm tx v) E p m T wn (A 82, A 83)).2 (nI a) 49) D (k + 1)) k u m s).2.1) (orA A (ooI (ooF m (fun p => balS (ouC (RkM td tm tx v) E p m T wn (A 82, A 83)).1 (ouC (RkM td tm tx v) E p m T wn (A 82, A 83)).2 (nI a) 49) D (k + 1)) k u m s).1 (ooI (ooF m (fun p => balS (ouC (RkM td tm tx v) E p m T wn (A 82, A 83)).1 (ouC (RkM td tm tx v) E p m T wn (A 82, A 83)).2 (nI a) 49) D (k + 1)) k u m s).2.2 N Z c) L) ∧ ∀ i, i < k → (ooI (ooF m (fun p => balS (ouC (RkM td tm tx v) E p m T wn (A 82, A 83)).1 (ouC (RkM td tm tx v) E p m T wn (A 82, A 83)).2 (nI a) 49) D (k + 1)) k u m s).1 i < m)) := by
  intro q
  induction q with
  | zero => intro p y N Z c h1 h2; omega
  | succ q ihq =>
    intro p y N Z c hpm hq hz hpp
    have eI : (ooI (ooF m (fun p => balS (ouC (RkM td tm tx v) E p m T wn (A 82, A 83)).1 (ouC (RkM td tm tx v) E p m T wn (A 82, A 83)).2 (nI a) 49) D (k + 1)) k u (p + 1) s) = if isB1 u p = true then (ooI (ooF m (fun p => balS (ouC (RkM td tm tx v) E p m T wn (A 82, A 83)).1 (ouC (RkM td tm tx v) E p m T wn (A 82, A 83)).2 (nI a) 49) D (k + 1)) k u p s) else ooF m (fun p => balS (ouC (RkM td tm tx v) E p m T wn (A 82, A 83)).1 (ouC (RkM td tm tx v) E p m T wn (A 82, A 83)).2 (nI a) 49) D (k + 1) (u ||| 2 ^ p) (updN (ooI (ooF m (fun p => balS (ouC (RkM td tm tx v) E p m T wn (A 82, A 83)).1 (ouC (RkM td tm tx v) E p m T wn (A 82, A 83)).2 (nI a) 49) D (k + 1)) k u p s).1 k p, (ooI (ooF m (fun p => balS (ouC (RkM td tm tx v) E p m T wn (A 82, A 83)).1 (ouC (RkM td tm tx v) E p m T wn (A 82, A 83)).2 (nI a) 49) D (k + 1)) k u p s).2) := rfl
    refine j_iload dX11_ordersOn_139 rfl ?_
    refine j_iload dX11_ordersOn_141 rfl ?_
    refine jn_icmp_ge (tgt := 189) dX11_ordersOn_143 (by decide) (by omega) (by omega) (fun h143 => ?_) (fun h143 => ?_)
    · refine j_return dX11_ordersOn_189 rfl ?_
      obtain rfl : p = m := by omega
      exact ⟨⟨rfl, y, N, Z, c, hz, rfl⟩, hpp⟩
    · refine j_iload_n dX11_ordersOn_146 rfl rfl ?_
      refine j_iload dX11_ordersOn_147 rfl ?_
      refine j_callSi [.int _, .int _] [] dX11_ordersOn_149 jlk_X11_254 rfl rfl (Nat.le_of_ble_eq_true rfl) (m_isIn (by omega) (by omega)) ?_
      refine j_if_ne (tgt := 183) dX11_ordersOn_152 (by decide) (fun h152 => ?_) (fun h152 => ?_)
      · have h152 : isB1 u p = true := by
          cases q : isB1 u p with
          | true => rfl
          | false => rw [q] at h152; exact absurd rfl h152
        rw [if_pos h152] at eI
        refine jn_iinc (lv' := [some (.ref 76), some (.int _), some (.int _), some (.int _), some (.int _), some (.int _), some (.int _), some (.int _), none, none, none]) dX11_ordersOn_183 rfl (by decide) rfl ?_
        refine j_goto (tgt := 139) dX11_ordersOn_186 (by decide) ?_
        refine j_sub ?_ (j_atw ?_ (ihq (p + 1) y N Z c (by omega) (by omega) hz ?_))
        · exact ⟨rfl, rfl, rfl, rfl, rfl, rfl, rfl, rfl, trivial⟩
        · rw [eI]
        · rw [eI]; exact hpp
      · have h152 : isB1 u p = false := by
          cases q : isB1 u p with
          | false => rfl
          | true => rw [q] at h152; exact absurd (show bz true = 0 from by first | exact h152 | simpa using h152) (by decide)
        rw [if_neg (by rw [h152]; decide)] at eI
        have hpn : ∀ i, i < k + 1 → updN (ooI (ooF m (fun p => balS (ouC (RkM td tm tx v) E p m T wn (A 82, A 83)).1 (ouC (RkM td tm tx v) E p m T wn (A 82, A 83)).2 (nI a) 49) D (k + 1)) k u p s).1 k p i < m := by
          intro i hi
          by_cases e9 : i = k
          · rw [e9, updN_s]; omega
          · rw [updN_n _ _ _ e9]; exact hpp i (by omega)
        have hc := ih (u ||| 2 ^ p) (updN (ooI (ooF m (fun p => balS (ouC (RkM td tm tx v) E p m T wn (A 82, A 83)).1 (ouC (RkM td tm tx v) E p m T wn (A 82, A 83)).2 (nI a) 49) D (k + 1)) k u p s).1 k p, (ooI (ooF m (fun p => balS (ouC (RkM td tm tx v) E p m T wn (A 82, A 83)).1 (ouC (RkM td tm tx v) E p m T wn (A 82, A 83)).2 (nI a) 49) D (k + 1)) k u p s).2) y N Z c (orb_tab hu (by omega)).2 hz hpn
        refine j_aload_n dX11_ordersOn_155 rfl rfl ?_
        refine t_getR (b := 90) dX11_ordersOn_156 jfl_X11_52 (fun _ _ _ => rfl) rfl ?_
        refine j_iload_n dX11_ordersOn_159 rfl rfl ?_
        refine j_iload dX11_ordersOn_160 rfl ?_
        refine t_iastore dX11_ordersOn_162 (fun _ _ _ => rfl) (by omega) (by decide) ?_
        refine j_aload_n dX11_ordersOn_163 rfl rfl ?_
        refine j_iload_n dX11_ordersOn_164 rfl rfl ?_
        refine j_iload_n dX11_ordersOn_165 rfl rfl ?_
        refine j_iconst (v := nI 1) dX11_ordersOn_166 rfl ?_
        refine jn_iadd dX11_ordersOn_167 ?_
        refine j_iload_n dX11_ordersOn_168 rfl rfl ?_
        refine j_iconst (v := nI 1) dX11_ordersOn_169 rfl ?_
        refine j_iload dX11_ordersOn_170 rfl ?_
        refine j_ishl dX11_ordersOn_172 ?_
        refine j_ior dX11_ordersOn_173 ?_
        refine j_topE (e' := nI (u ||| 2 ^ p)) (orb_tab hu (by omega)).1 ?_
        refine j_iload dX11_ordersOn_174 rfl ?_
        refine j_iload dX11_ordersOn_176 rfl ?_
        refine j_iload dX11_ordersOn_178 rfl ?_
        rw [orA_90, upd_nIf, orA_p90]
        refine j_callV [.int _, .int _, .int _, .int _, .int _, .int _] [] dX11_ordersOn_180 jlk_X11_257 rfl rfl rfl rfl (Nat.le_of_ble_eq_true rfl) (hc.1) (fun r9 w9 h9 => ?_)
        obtain ⟨rfl, y9, N9, Z9, c9, hz9, rfl⟩ := h9
        refine j_ats (st' := []) rfl ?_
        refine jn_iinc (lv' := [some (.ref 76), some (.int _), some (.int _), some (.int _), some (.int _), some (.int _), some (.int _), some (.int _), none, none, none]) dX11_ordersOn_183 rfl (by decide) rfl ?_
        refine j_goto (tgt := 139) dX11_ordersOn_186 (by decide) ?_
        refine j_sub ?_ (j_atw ?_ (ihq (p + 1) y9 N9 Z9 c9 (by omega) (by omega) hz9 ?_))
        · exact ⟨rfl, rfl, rfl, rfl, rfl, rfl, rfl, rfl, trivial⟩
        · rw [eI]
        · rw [eI]; exact fun i hi => hc.2 i (by omega)

set_option maxHeartbeats 200000 in
set_option maxRecDepth 100000 in
theorem m_oo_s {E : Nat → Int32} {j T m k a wn e D u : Nat} (hm5 : m ≤ 5) (hkm : k < m) (hu : u < 32) (ih : ∀ (u : Nat) (s : oS) (y N Z : Nat → Int32) (c : cS), u < 32 → (zb 49 c.1 ∧ zb 49 c.2) → (∀ i, i < k + 1 → s.1 i < m) → jMet (d + e) yX11_ordersOn cX11_ordersOn 11 none 0 0 [.ref 76, .int (nI j), .int (nI (k + 1)), .int (nI u), .int (nI m), .int (nI a), .int (nI wn)] (tw (orX X y s.2.1) (orA A s.1 s.2.2 N Z c) L) ((fun z w => z = none ∧ ∃ (y N Z : Nat → Int32) (c : cS), (zb 49 c.1 ∧ zb 49 c.2) ∧ w = tw (orX X y (ooF m (fun p => balS (ouC (RkM td tm tx v) E p m T wn (A 82, A 83)).1 (ouC (RkM td tm tx v) E p m T wn (A 82, A 83)).2 (nI a) 49) D (k + 1) u s).2.1) (orA A (ooF m (fun p => balS (ouC (RkM td tm tx v) E p m T wn (A 82, A 83)).1 (ouC (RkM td tm tx v) E p m T wn (A 82, A 83)).2 (nI a) 49) D (k + 1) u s).1 (ooF m (fun p => balS (ouC (RkM td tm tx v) E p m T wn (A 82, A 83)).1 (ouC (RkM td tm tx v) E p m T wn (A 82, A 83)).2 (nI a) 49) D (k + 1) u s).2.2 N Z c) L)) ∧ ∀ i, i < k + 1 → (ooF m (fun p => balS (ouC (RkM td tm tx v) E p m T wn (A 82, A 83)).1 (ouC (RkM td tm tx v) E p m T wn (A 82, A 83)).2 (nI a) 49) D (k + 1) u s).1 i < m) {s : oS} (hp : ∀ i, i < k → s.1 i < m) {y N Z : Nat → Int32} {c : cS} (hz : zb 49 c.1 ∧ zb 49 c.2) : jMet (d + e + 1) yX11_ordersOn cX11_ordersOn 11 none 0 0 [.ref 76, .int (nI j), .int (nI k), .int (nI u), .int (nI m), .int (nI a), .int (nI wn)] (tw (orX X y s.2.1) (orA A s.1 s.2.2 N Z c) L) ((fun z w => z = none ∧ ∃ (y N Z : Nat → Int32) (c : cS), (zb 49 c.1 ∧ zb 49 c.2) ∧ w = tw (orX X y (ooF m (fun p => balS (ouC (RkM td tm tx v) E p m T wn (A 82, A 83)).1 (ouC (RkM td tm tx v) E p m T wn (A 82, A 83)).2 (nI a) 49) (D + 1) k u s).2.1) (orA A (ooF m (fun p => balS (ouC (RkM td tm tx v) E p m T wn (A 82, A 83)).1 (ouC (RkM td tm tx v) E p m T wn (A 82, A 83)).2 (nI a) 49) (D + 1) k u s).1 (ooF m (fun p => balS (ouC (RkM td tm tx v) E p m T wn (A 82, A 83)).1 (ouC (RkM td tm tx v) E p m T wn (A 82, A 83)).2 (nI a) 49) (D + 1) k u s).2.2 N Z c) L)) := by
  refine jMet_of (by decide) (Nat.le_of_ble_eq_true rfl) none (Or.inl rfl) ?_
  show jWP none RX11 cX11_ordersOn 11 none (d + e + 1) 0 0 0 [some (.ref 76), some (.int (nI j)), some (.int (nI k)), some (.int (nI u)), some (.int (nI m)), some (.int (nI a)), some (.int (nI wn)), none, none, none, none] [] (tw (orX X y s.2.1) (orA A s.1 s.2.2 N Z c) L) ((fun z w => z = none ∧ ∃ (y N Z : Nat → Int32) (c : cS), (zb 49 c.1 ∧ zb 49 c.2) ∧ w = tw (orX X y (ooF m (fun p => balS (ouC (RkM td tm tx v) E p m T wn (A 82, A 83)).1 (ouC (RkM td tm tx v) E p m T wn (A 82, A 83)).2 (nI a) 49) (D + 1) k u s).2.1) (orA A (ooF m (fun p => balS (ouC (RkM td tm tx v) E p m T wn (A 82, A 83)).1 (ouC (RkM td tm tx v) E p m T wn (A 82, A 83)).2 (nI a) 49) (D + 1) k u s).1 (ooF m (fun p => balS (ouC (RkM td tm tx v) E p m T wn (A 82, A 83)).1 (ouC (RkM td tm tx v) E p m T wn (A 82, A 83)).2 (nI a) 49) (D + 1) k u s).2.2 N Z c) L))
  refine j_iload_n dX11_ordersOn_0 rfl rfl ?_
  refine j_iload dX11_ordersOn_1 rfl ?_
  refine jn_icmp_ne (tgt := 136) dX11_ordersOn_3 (by decide) (by omega) (by omega) (fun h3 => ?_) (fun h3 => absurd h3 (by omega))
  refine j_iconst (v := nI 0) dX11_ordersOn_136 rfl ?_
  refine j_istore (lv' := [some (.ref 76), some (.int _), some (.int _), some (.int _), some (.int _), some (.int _), some (.int _), some (.int _), none, none, none]) dX11_ordersOn_137 (by decide) rfl ?_
  exact j_post (l_oo_n hm5 hkm hu ih hp (m + 1) 0 y N Z c (Nat.zero_le _) (by omega) hz hp) (fun z w q => q.1)

theorem oo_lt {m : Nat} {ou : (Nat → Nat) → Int32} : ∀ (D k u : Nat) (s : oS), k + D = m → (∀ i, i < k → s.1 i < m) → ∀ i, i < k → (ooF m ou D k u s).1 i < m
  | 0, k, u, s, _, hp => hp
  | D + 1, k, u, s, hk, hp => by
    have hq : ∀ p, p ≤ m → ∀ i, i < k → (ooI (ooF m ou D (k + 1)) k u p s).1 i < m := by
      intro p
      induction p with
      | zero => intro _; exact hp
      | succ p ih =>
        intro hpm
        have ih := ih (by omega)
        show ∀ i, i < k → (if isB1 u p = true then ooI (ooF m ou D (k + 1)) k u p s else ooF m ou D (k + 1) (u ||| 2 ^ p) (updN (ooI (ooF m ou D (k + 1)) k u p s).1 k p, (ooI (ooF m ou D (k + 1)) k u p s).2)).1 i < m
        split
        · exact ih
        · intro i hi
          refine oo_lt D (k + 1) _ _ (by omega) (fun i hi => ?_) i (by omega)
          show updN (ooI (ooF m ou D (k + 1)) k u p s).1 k p i < m
          by_cases e9 : i = k
          · rw [e9, updN_s]; omega
          · rw [updN_n _ _ _ e9]; exact ih i (by omega)
    exact hq m (Nat.le_refl _)
theorem m_ordersOn (hr : mrul td tm tx na v X A) (z1 : zb 49 (A 82)) (z2 : zb 49 (A 83)) (hw : ow (A 82)) {j ln : Nat} (hj : j < 6) {E : Nat → Int32} (hm : A 101 j = nI ln) (l60 : ln ≤ 60) (hE : ∀ i, i < ln → L 102 (60 * j + i) = (E i).toInt64) {T m : Nat} (hT : saC (saB na ln E) 30 0 = T) (hmT : m ≤ T) (hm5 : m ≤ 5) {a wn : Nat} (ha : a < na) (hwn : wn < 50) : ∀ (D k : Nat), k + D = m → ∀ (u : Nat) (s : oS) (y N Z : Nat → Int32) (c : cS), u < 32 → (zb 49 c.1 ∧ zb 49 c.2) → (∀ i, i < k → s.1 i < m) → jMet (d + (55 + D)) yX11_ordersOn cX11_ordersOn 11 none 0 0 [.ref 76, .int (nI j), .int (nI k), .int (nI u), .int (nI m), .int (nI a), .int (nI wn)] (tw (orX X y s.2.1) (orA A s.1 s.2.2 N Z c) L) ((fun z w => z = none ∧ ∃ (y N Z : Nat → Int32) (c : cS), (zb 49 c.1 ∧ zb 49 c.2) ∧ w = tw (orX X y (ooF m (fun p => balS (ouC (RkM td tm tx v) E p m T wn (A 82, A 83)).1 (ouC (RkM td tm tx v) E p m T wn (A 82, A 83)).2 (nI a) 49) D k u s).2.1) (orA A (ooF m (fun p => balS (ouC (RkM td tm tx v) E p m T wn (A 82, A 83)).1 (ouC (RkM td tm tx v) E p m T wn (A 82, A 83)).2 (nI a) 49) D k u s).1 (ooF m (fun p => balS (ouC (RkM td tm tx v) E p m T wn (A 82, A 83)).1 (ouC (RkM td tm tx v) E p m T wn (A 82, A 83)).2 (nI a) 49) D k u s).2.2 N Z c) L)) := by
  intro D
  induction D with
  | zero => exact fun k hk u s y N Z c hu hz hp => m_oo_0 hr z1 z2 hw hj hm l60 hE hT hmT hm5 ha hwn hz (fun i hi => hp i (by omega)) (by omega)
  | succ D ih =>
    intro k hk u s y N Z c hu hz hp
    have h := m_oo_s (d := d) (L := L) (X := X) (A := A) (tx := tx) (v := v) (tm := tm) (td := td) (E := E) (j := j) (T := T) (a := a) (wn := wn) (e := 55 + D) (D := D) hm5 (show k < m by omega) hu (fun u s y N Z c hu hz hp => ⟨ih (k + 1) (by omega) u s y N Z c hu hz hp, fun i hi => oo_lt D (k + 1) u s (by omega) hp i hi⟩) hp (y := y) (N := N) (Z := Z) hz
    exact h

end CT61