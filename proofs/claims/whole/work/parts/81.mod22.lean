abbrev oS : Type := (Nat → Nat) × Int32 × (Nat → Int32)
/-- all orders, one place at a time -/
def ooI (f : Nat → oS → oS) (k used : Nat) : Nat → oS → oS
  | 0, s => s
  | p + 1, s => if isB1 used p = true then ooI f k used p s else f (used ||| 2 ^ p) (updN (ooI f k used p s).1 k p, (ooI f k used p s).2)
def ooF (m : Nat) (ou : (Nat → Nat) → Int32) : Nat → Nat → Nat → oS → oS
  | 0, _, _, s => (s.1, if ou s.1 ≤ s.2.1 then s.2.1 else ou s.1, if ou s.1 ≤ s.2.1 then s.2.2 else cpN (nIf s.1) s.2.2 m)
  | D + 1, k, used, s => ooI (ooF m ou D (k + 1)) k used m s
theorem orb_tab {u p : Nat} (hu : u < 32) (hp : p < 5) : nI u ||| (nI 1 <<< (nI p &&& 31)) = nI (u ||| 2 ^ p) ∧ (u ||| 2 ^ p) < 32 := by
  have q : (List.range 32).all (fun u => (List.range 5).all fun p => decide (nI u ||| (nI 1 <<< (nI p &&& 31)) = nI (u ||| 2 ^ p)) && decide ((u ||| 2 ^ p) < 32)) = true := by decide +kernel
  have q2 := List.all_eq_true.mp (List.all_eq_true.mp q u (List.mem_range.mpr hu)) p (List.mem_range.mpr hp)
  simp only [Bool.and_eq_true, decide_eq_true_eq] at q2
  exact q2
def orX (X : Nat → Nat → Int32) (y : Nat → Int32) (b : Int32) : Nat → Nat → Int32 := va_up (zX X y) 76 (upd (zX X y 76) 25 b)
def orA (A : Nat → Nat → Int32) (p : Nat → Nat) (q N Z : Nat → Int32) (c : cS) : Nat → Nat → Int32 := va_up (va_up (tE A N Z c) 90 (nIf p)) 91 q
section OX
variable {X A : Nat → Nat → Int32} {y N Z q q' N' Z' : Nat → Int32} {b b' : Int32} {p p' : Nat → Nat} {c c' : cS}
theorem orX_25 : orX X y b 76 25 = b := by unfold orX; rw [vu_s, ud_s]
theorem orX_n {i : Nat} (h : i ≠ 25) (h2 : i < 16 ∨ 20 < i) : orX X y b 76 i = X 76 i := by unfold orX; rw [vu_s, ud_n _ _ _ h, zX_n h2]
theorem orX_p : va_up (orX X y b) 76 (upd (orX X y b 76) 25 b') = orX X y b' := by unfold orX; rw [vu_up, vu_s, ud_ud]
theorem zX_orX {y' : Nat → Int32} : zX (orX X y b) y' = orX X y' b := by
  unfold orX zX
  simp only [vu_up, vu_s]
  refine congrArg _ (funext fun i => ?_)
  unfold upd
  by_cases h : i = 25
  · subst h; simp
  · by_cases h2 : 16 ≤ i ∧ i ≤ 20
    · simp [h, h2]
    · simp [h, h2]
theorem orX_z {b : Int32} : va_up X 76 (upd (X 76) 25 b) = orX X (X 76) b := by unfold orX; rw [zX_self]
theorem orA_90 : orA A p q N Z c 90 = nIf p := by unfold orA; rw [vu_n _ _ _ (by decide), vu_s]
theorem orA_91 : orA A p q N Z c 91 = q := vu_s _ _ _
theorem orA_84 : orA A p q N Z c 84 = c.1 := by unfold orA; rw [vu_n _ _ _ (by decide), vu_n _ _ _ (by decide), tE_84]
theorem orA_85 : orA A p q N Z c 85 = c.2 := by unfold orA; rw [vu_n _ _ _ (by decide), vu_n _ _ _ (by decide), tE_85]
theorem orA_n {i : Nat} (h : i ≠ 84 ∧ i ≠ 85 ∧ i ≠ 88 ∧ i ≠ 89 ∧ i ≠ 90 ∧ i ≠ 91) : orA A p q N Z c i = A i := by unfold orA; rw [vu_n _ _ _ h.2.2.2.2.2, vu_n _ _ _ h.2.2.2.2.1, tE_n _ _ _ _ h.1 h.2.1 h.2.2.1 h.2.2.2.1]
theorem orA_p90 : va_up (orA A p q N Z c) 90 (nIf p') = orA A p' q N Z c := by unfold orA; rw [vu_comm _ _ _ (by decide), vu_up]
theorem orA_p91 : va_up (orA A p q N Z c) 91 q' = orA A p q' N Z c := vu_up _ _ _ _
theorem orA_m : mA (orA A p q N Z c) c'.1 c'.2 = orA A p q N Z c' := by
  unfold orA
  rw [← mA_vu _ _ _ _ (by decide) (by decide), ← mA_vu _ _ _ _ (by decide) (by decide), tE_m]
theorem orA_t : mA (va_up (orA A p q N Z c) 88 N') c'.1 c'.2 = orA A p q N' Z c' := by
  unfold orA
  rw [vu_comm _ _ _ (show (91 : Nat) ≠ 88 by decide), vu_comm _ _ _ (show (90 : Nat) ≠ 88 by decide), ← mA_vu _ _ _ _ (by decide) (by decide), ← mA_vu _ _ _ _ (by decide) (by decide), tE_t]
theorem orA_e : eA (orA A p q N Z c) c'.1 c'.2 Z' = orA A p q N Z' c' := by
  unfold orA
  rw [← eA_vu _ _ _ _ _ (by decide) (by decide) (by decide), ← eA_vu _ _ _ _ _ (by decide) (by decide) (by decide), tE_e]
theorem orA_self {A : Nat → Nat → Int32} {p : Nat → Nat} (hp : A 90 = nIf p) : orA A p (A 91) (A 88) (A 89) (A 84, A 85) = A := by
  unfold orA
  rw [tE_self, ← hp, vu_self, vu_self]
theorem mrul_o {td : Bool} {tm : Nat} {tx : Nat → Nat} {na : Nat} {v : Nat → Nat} (h : mrul td tm tx na v X A) : mrul td tm tx na v (orX X y b) (orA A p q N Z c) :=
  mrul_c h (orX_n (by decide) (by decide)) (orX_n (by decide) (by decide)) (orA_n (by decide)) (orA_n (by decide))
end OX
section CT61
variable {d : Nat} {X A : Nat → Nat → Int32} {L : Nat → Nat → Int64} {w : jW} {tx v : Nat → Nat} {na tm : Nat} {td : Bool}

set_option maxHeartbeats 200000 in
set_option maxRecDepth 100000 in
theorem l_oo_told (hr : mrul td tm tx na v X A) (z1 : zb 49 (A 82)) (z2 : zb 49 (A 83)) (hw : ow (A 82)) {j ln : Nat} (hj : j < 6) {E : Nat → Int32} (hm : A 101 j = nI ln) (l60 : ln ≤ 60) (hE : ∀ i, i < ln → L 102 (60 * j + i) = (E i).toInt64) {T m : Nat} (hT : saC (saB na ln E) 30 0 = T) (hmT : m ≤ T) (hm5 : m ≤ 5) {a wn : Nat} (ha : a < na) (hwn : wn < 50) {s : oS} {y2 y3 : Int32} (hp : ∀ i, i < m → s.1 i < m) {post : Option Value → jW → Prop} {Z : Nat → Int32} (kk : ∀ (y N : Nat → Int32) (i : Nat) (x : Int32), jWP none RX11 cX11_ordersOn 11 none (d + 55) 0 0 75 [some (.ref 76), some (.int (nI j)), some (.int y2), some (.int y3), some (.int (nI m)), some (.int (nI a)), some (.int (nI wn)), some (.int (nI T)), some (.int x), some (.int (nI i)), none] [] (tw (orX X y s.2.1) (orA A s.1 s.2.2 N Z (ruS (RkM td tm tx v) (evp E s.1 m) (odp E s.1 m) (A 82, A 83) T).1) L) post) : ∀ (q i : Nat) (y N : Nat → Int32), i ≤ T → T - i < q → jWP none RX11 cX11_ordersOn 11 none (d + 55) 0 0 23 [some (.ref 76), some (.int (nI j)), some (.int y2), some (.int y3), some (.int (nI m)), some (.int (nI a)), some (.int (nI wn)), some (.int (nI T)), some (.int (bz (ruS (RkM td tm tx v) (evp E s.1 m) (odp E s.1 m) (A 82, A 83) i).2)), some (.int (nI i)), none] [] (tw (orX X y s.2.1) (orA A s.1 s.2.2 N Z (ruS (RkM td tm tx v) (evp E s.1 m) (odp E s.1 m) (A 82, A 83) i).1) L) (post) := by
  have hsa : ∀ i, i < T → saB na ln E i = true := fun i hi => saC_all (Nat.zero_le i) (by rw [hT]; exact hi)
  have hT30 : T ≤ 30 := by rw [← hT]; exact saC_le 30 0
  have na6 := hr.2.2.2.2.2.2.1
  have hpl : ∀ i, i < T → plc s.1 m i < T := fun i hi => by unfold plc; split; exact Nat.lt_of_lt_of_le (hp i (by assumption)) hmT; exact hi
  have hac : ∀ i, i < T → ∃ q, q < na ∧ E (2 * plc s.1 m i) = nI q := fun i hi => slA_acc na6 (saB_1 (hsa _ (hpl i hi))).2
  have hac0 : ∀ i, i < T → 0 ≤ evp E s.1 m i := fun i hi => by obtain ⟨q, hq, e⟩ := hac i hi; show 0 ≤ E (2 * plc s.1 m i); rw [e]; exact Int32.not_lt.mp (nI_pos (by omega))
  intro q
  induction q with
  | zero => intro i y N h1 h2; omega
  | succ q ih =>
    intro i y N hi hq
    obtain ⟨hz, hwo⟩ := ruS_ok (Rk := (RkM td tm tx v)) (s := odp E s.1 m) (c := (A 82, A 83)) ⟨z1, z2⟩ hw i (fun j hj => hac0 j (by omega))
    refine j_iload dX11_ordersOn_23 rfl ?_
    refine j_iload dX11_ordersOn_25 rfl ?_
    refine jn_icmp_ge (tgt := 75) dX11_ordersOn_27 (by decide) (by omega) (by omega) (fun h27 => ?_) (fun h27 => ?_)
    · obtain rfl : i = T := by omega
      exact kk y N _ _
    · obtain ⟨u, hu, hue⟩ := hac i h27
      have h2i := (saB_1 (hsa _ (hpl i h27))).1
      refine j_iload dX11_ordersOn_30 rfl ?_
      refine j_if_eq (tgt := 75) dX11_ordersOn_32 (by decide) (fun h32 => ?_) (fun h32 => ?_)
      · have h32 := bz_f h32
        have hd := ru_dead' h32 (N := T) (by omega)
        rw [← hd.1]
        exact kk y N _ _
      · have h32 := bz_t h32
        refine j_aload_n dX11_ordersOn_35 rfl rfl ?_
        refine j_iload_n dX11_ordersOn_36 rfl rfl ?_
        refine j_iload dX11_ordersOn_37 rfl ?_
        refine j_iload dX11_ordersOn_39 rfl ?_
        refine jn_icmp_ge (tgt := 54) dX11_ordersOn_41 (by decide) (by omega) (by omega) (fun h41 => ?_) (fun h41 => ?_)
        · refine j_iload dX11_ordersOn_54 rfl ?_
          refine j_ats (st' := [.int (nI (plc s.1 m i)), .int (nI j), .ref 76]) (by unfold plc; rw [if_neg (by omega)]) ?_
          refine j_callV [.int _, .int _] [] dX11_ordersOn_56 jlk_X11_234 rfl rfl rfl rfl (Nat.le_of_ble_eq_true rfl) (m_sellsAt (i := plc s.1 m i) (mrul_o (y := y) (b := s.2.1) (p := s.1) (q := s.2.2) (N := N) (Z := Z) hr) (by rw [orA_84]; exact hwo) hj l60 hE h2i hue hu) (fun r9 w9 h9 => ?_)
          obtain ⟨rfl, y9, N9, rfl⟩ := h9
          rw [orA_84, orA_85, zX_orX]
          refine j_atw (w' := tw (orX X y9 s.2.1) (orA A s.1 s.2.2 N9 Z (seS (RkM td tm tx v) (ruS (RkM td tm tx v) (evp E s.1 m) (odp E s.1 m) (A 82, A 83) i).1 (E (2 * plc s.1 m i)) (E (2 * plc s.1 m i + 1)))) L) (tw_eq rfl orA_t rfl) ?_
          refine j_ats (st' := [.int (plP (seP (RkM td tm tx v) (ruS (RkM td tm tx v) (evp E s.1 m) (odp E s.1 m) (A 82, A 83) i).1 (E (2 * plc s.1 m i)) (E (2 * plc s.1 m i + 1))))]) rfl ?_
          refine j_ats (st' := [.int _]) rfl ?_
          refine j_if_lt (tgt := 66) dX11_ordersOn_59 (by decide) (fun h59 => ?_) (fun h59 => ?_)
          · have hnone := plP_neg' h59 (fun q hq => seP_lt hq)
            refine j_iconst (v := nI 0) dX11_ordersOn_66 rfl ?_
            refine j_istore (lv' := [some (.ref 76), some (.int _), some (.int _), some (.int _), some (.int _), some (.int _), some (.int _), some (.int _), some (.int _), some (.int _), none]) dX11_ordersOn_67 (by decide) rfl ?_
            refine jn_iinc (lv' := [some (.ref 76), some (.int _), some (.int _), some (.int _), some (.int _), some (.int _), some (.int _), some (.int _), some (.int _), some (.int _), none]) dX11_ordersOn_69 rfl (by decide) rfl ?_
            refine j_goto (tgt := 23) dX11_ordersOn_72 (by decide) ?_
            have e0 : (seS (RkM td tm tx v) (ruS (RkM td tm tx v) (evp E s.1 m) (odp E s.1 m) (A 82, A 83) i).1 (E (2 * plc s.1 m i)) (E (2 * plc s.1 m i + 1))) = (ruS (RkM td tm tx v) (evp E s.1 m) (odp E s.1 m) (A 82, A 83) i).1 := ru_none (a := evp E s.1 m) (s := odp E s.1 m) hnone
            have e1 : (ruS (RkM td tm tx v) (evp E s.1 m) (odp E s.1 m) (A 82, A 83) (i + 1)) = ((ruS (RkM td tm tx v) (evp E s.1 m) (odp E s.1 m) (A 82, A 83) i).1, false) := by have q := ru_t h32; rw [q]; refine Prod.ext e0 ?_; show ((seP (RkM td tm tx v) (ruS (RkM td tm tx v) (evp E s.1 m) (odp E s.1 m) (A 82, A 83) i).1 (E (2 * plc s.1 m i)) (E (2 * plc s.1 m i + 1)))).isSome = false; rw [hnone]; rfl
            refine j_sub ?_ (j_atw ?_ (ih (i + 1) y9 N9 (by omega) (by omega)))
            · rw [e1]; exact ⟨rfl, rfl, rfl, rfl, rfl, rfl, rfl, rfl, rfl, rfl, trivial⟩
            · rw [e1, e0]
          · have hsome := plP_pos (Int32.not_lt.mp h59)
            refine j_iconst (v := nI 1) dX11_ordersOn_62 rfl ?_
            refine j_goto (tgt := 67) dX11_ordersOn_63 (by decide) ?_
            refine j_istore (lv' := [some (.ref 76), some (.int _), some (.int _), some (.int _), some (.int _), some (.int _), some (.int _), some (.int _), some (.int _), some (.int _), none]) dX11_ordersOn_67 (by decide) rfl ?_
            refine jn_iinc (lv' := [some (.ref 76), some (.int _), some (.int _), some (.int _), some (.int _), some (.int _), some (.int _), some (.int _), some (.int _), some (.int _), none]) dX11_ordersOn_69 rfl (by decide) rfl ?_
            refine j_goto (tgt := 23) dX11_ordersOn_72 (by decide) ?_
            have e1 : (ruS (RkM td tm tx v) (evp E s.1 m) (odp E s.1 m) (A 82, A 83) (i + 1)) = ((seS (RkM td tm tx v) (ruS (RkM td tm tx v) (evp E s.1 m) (odp E s.1 m) (A 82, A 83) i).1 (E (2 * plc s.1 m i)) (E (2 * plc s.1 m i + 1))), true) := by have q := ru_t h32; rw [q]; exact Prod.ext rfl hsome
            refine j_sub ?_ (j_atw ?_ (ih (i + 1) y9 N9 (by omega) (by omega)))
            · rw [e1]; exact ⟨rfl, rfl, rfl, rfl, rfl, rfl, rfl, rfl, rfl, rfl, trivial⟩
            · rw [e1]
        · refine j_aload_n dX11_ordersOn_44 rfl rfl ?_
          refine t_getR (b := 90) dX11_ordersOn_45 jfl_X11_52 (fun _ _ _ => rfl) rfl ?_
          refine j_iload dX11_ordersOn_48 rfl ?_
          refine t_iaload dX11_ordersOn_50 (fun _ _ _ => rfl) (by omega) (by decide) ?_
          refine j_topE (e' := nI (s.1 i)) (by rw [orA_90]; rfl) ?_
          refine j_goto (tgt := 56) dX11_ordersOn_51 (by decide) ?_
          refine j_ats (st' := [.int (nI (plc s.1 m i)), .int (nI j), .ref 76]) (by unfold plc; rw [if_pos h41]) ?_
          refine j_callV [.int _, .int _] [] dX11_ordersOn_56 jlk_X11_234 rfl rfl rfl rfl (Nat.le_of_ble_eq_true rfl) (m_sellsAt (i := plc s.1 m i) (mrul_o (y := y) (b := s.2.1) (p := s.1) (q := s.2.2) (N := N) (Z := Z) hr) (by rw [orA_84]; exact hwo) hj l60 hE h2i hue hu) (fun r9 w9 h9 => ?_)
          obtain ⟨rfl, y9, N9, rfl⟩ := h9
          rw [orA_84, orA_85, zX_orX]
          refine j_atw (w' := tw (orX X y9 s.2.1) (orA A s.1 s.2.2 N9 Z (seS (RkM td tm tx v) (ruS (RkM td tm tx v) (evp E s.1 m) (odp E s.1 m) (A 82, A 83) i).1 (E (2 * plc s.1 m i)) (E (2 * plc s.1 m i + 1)))) L) (tw_eq rfl orA_t rfl) ?_
          refine j_ats (st' := [.int (plP (seP (RkM td tm tx v) (ruS (RkM td tm tx v) (evp E s.1 m) (odp E s.1 m) (A 82, A 83) i).1 (E (2 * plc s.1 m i)) (E (2 * plc s.1 m i + 1))))]) rfl ?_
          refine j_ats (st' := [.int _]) rfl ?_
          refine j_if_lt (tgt := 66) dX11_ordersOn_59 (by decide) (fun h59 => ?_) (fun h59 => ?_)
          · have hnone := plP_neg' h59 (fun q hq => seP_lt hq)
            refine j_iconst (v := nI 0) dX11_ordersOn_66 rfl ?_
            refine j_istore (lv' := [some (.ref 76), some (.int _), some (.int _), some (.int _), some (.int _), some (.int _), some (.int _), some (.int _), some (.int _), some (.int _), none]) dX11_ordersOn_67 (by decide) rfl ?_
            refine jn_iinc (lv' := [some (.ref 76), some (.int _), some (.int _), some (.int _), some (.int _), some (.int _), some (.int _), some (.int _), some (.int _), some (.int _), none]) dX11_ordersOn_69 rfl (by decide) rfl ?_
            refine j_goto (tgt := 23) dX11_ordersOn_72 (by decide) ?_
            have e0 : (seS (RkM td tm tx v) (ruS (RkM td tm tx v) (evp E s.1 m) (odp E s.1 m) (A 82, A 83) i).1 (E (2 * plc s.1 m i)) (E (2 * plc s.1 m i + 1))) = (ruS (RkM td tm tx v) (evp E s.1 m) (odp E s.1 m) (A 82, A 83) i).1 := ru_none (a := evp E s.1 m) (s := odp E s.1 m) hnone
            have e1 : (ruS (RkM td tm tx v) (evp E s.1 m) (odp E s.1 m) (A 82, A 83) (i + 1)) = ((ruS (RkM td tm tx v) (evp E s.1 m) (odp E s.1 m) (A 82, A 83) i).1, false) := by have q := ru_t h32; rw [q]; refine Prod.ext e0 ?_; show ((seP (RkM td tm tx v) (ruS (RkM td tm tx v) (evp E s.1 m) (odp E s.1 m) (A 82, A 83) i).1 (E (2 * plc s.1 m i)) (E (2 * plc s.1 m i + 1)))).isSome = false; rw [hnone]; rfl
            refine j_sub ?_ (j_atw ?_ (ih (i + 1) y9 N9 (by omega) (by omega)))
            · rw [e1]; exact ⟨rfl, rfl, rfl, rfl, rfl, rfl, rfl, rfl, rfl, rfl, trivial⟩
            · rw [e1, e0]
          · have hsome := plP_pos (Int32.not_lt.mp h59)
            refine j_iconst (v := nI 1) dX11_ordersOn_62 rfl ?_
            refine j_goto (tgt := 67) dX11_ordersOn_63 (by decide) ?_
            refine j_istore (lv' := [some (.ref 76), some (.int _), some (.int _), some (.int _), some (.int _), some (.int _), some (.int _), some (.int _), some (.int _), some (.int _), none]) dX11_ordersOn_67 (by decide) rfl ?_
            refine jn_iinc (lv' := [some (.ref 76), some (.int _), some (.int _), some (.int _), some (.int _), some (.int _), some (.int _), some (.int _), some (.int _), some (.int _), none]) dX11_ordersOn_69 rfl (by decide) rfl ?_
            refine j_goto (tgt := 23) dX11_ordersOn_72 (by decide) ?_
            have e1 : (ruS (RkM td tm tx v) (evp E s.1 m) (odp E s.1 m) (A 82, A 83) (i + 1)) = ((seS (RkM td tm tx v) (ruS (RkM td tm tx v) (evp E s.1 m) (odp E s.1 m) (A 82, A 83) i).1 (E (2 * plc s.1 m i)) (E (2 * plc s.1 m i + 1))), true) := by have q := ru_t h32; rw [q]; exact Prod.ext rfl hsome
            refine j_sub ?_ (j_atw ?_ (ih (i + 1) y9 N9 (by omega) (by omega)))
            · rw [e1]; exact ⟨rfl, rfl, rfl, rfl, rfl, rfl, rfl, rfl, rfl, rfl, trivial⟩
            · rw [e1]

end CT61