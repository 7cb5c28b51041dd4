section
variable {X : XC} {Y : XY} {d pc : Nat} {ls ls' : List (Nat × XV)} {st : List XV} {M : Mem} {Post : Option XV → Mem → Prop}
theorem go_put {ci k N idx o : Nat} {v : Int} {w : Value} {ty : FieldType} (hd : decode Y.2.1 pc = .ok (.putfield idx, 3)) (hf : FL Y.1.cls idx ci k) (ho : Sh o = (10 + ci, N)) (hk : k < N) (x : XV) (hxw : xc X.ad x = w) (hw : xfv X.ad (wr M o k v) o ci k = w) (hty : ∀ (C : String) (T : u_T) (N : Nat), vwCl[ci]? = some (C, T, N) → (((FK ci k).1 = 0 ∧ (T k).2.2.1 = "I" ∧ (T k).2.2.2 = false) ∨ ((FK ci k).1 = 1 ∧ (T k).2.2.1 = "J" ∧ (T k).2.2.2 = false) ∨ ((FK ci k).1 = 2 ∧ (T k).2.2.1 = "Z" ∧ (T k).2.2.2 = false) ∨ (FK ci k).1 = 3) → (T k).2.2.2 = false ∧ parseFieldDescriptor (T k).2.2.1 = some ty) (hn : narrow ty w = w) (hfit : fits ty w = true) (hrg : xok x → xrg (xkind o k) v)
    (kk : Go X Y d (pc + 3) ls st (wr M o k v) Post) : Go X Y d pc ls (x :: XR o :: st) M Post := by
  intro o1 o2 o3 p e R s m args below meth c cells slots Q H locs lsA C F hl K
  obtain ⟨Cn, T, N', ty0, hc, hkN, hin, hty0, hnm, hlk, hdc, hkd⟩ := hf
  have hmem : o ∈ xcells := Sh_mem ho (by omega)
  obtain ⟨q, hq⟩ := xat hmem
  have hat := ws_at X M hq
  rw [xcontO X M ho] at hat
  have k2 := fun (H1 : Heap) (locs1 : List Loc) (F1 : XF X (wr M o k v) s H1 locs1) => kk o1 (ok_t (ok_t o2)) (MR_wr o3 (hrg (ok_h o2))) p e R s m args below meth c cells slots Q H1 locs1 lsA C F1 hl K
  have hset : (wsM X M).set q (X.ad o, .inr (ci, ((List.range N).map (xfv X.ad M o ci)).set k w)) = wsM X (wr M o k v) := by
    rw [fs_set X hk hw, ← xcontO X (wr M o k v) ho]
    exact ws_set X hq (fun j hj => wr_ne hj)
  obtain ⟨hx, hb, hml, hown, hts, hK, hI, hSt, hfr, hlo, hce, hsl⟩ := C
  obtain ⟨h1, h2⟩ := hty Cn T N' hc hkd
  have hlen : k < ((List.range N).map (xfv X.ad M o ci)).length := by rw [List.length_map, List.length_range]; exact hk
  show W p X.1 e R s m args below meth c H locs cells slots Q (F0 m pc lsA (xc X.ad x :: .ref (X.ad o) :: xst X st))
  rw [hxw]
  rcases hlk with hlk | ⟨host, hlk⟩
  · exact va_put hx hb hts hin ty0 hty0 hnm hown hK F.1 (wsD X M hI) F.2 q hat hc k hkN (hts _ hlk) (fun x h => by rw [hdc] at h; exact h) h1 h2 hn hfit hlen hd (fun H1 locs1 a1 _ a3 => k2 H1 locs1 ⟨hset ▸ a1, a3⟩)
  · exact va_putN hx hb hts hin ty0 hty0 hnm hown hK F.1 (wsD X M hI) F.2 q hat hc k hkN (hts _ hlk) (fun x h => by rw [hdc] at h; exact h) h1 h2 hn hfit hlen hd (fun H1 locs1 a1 _ a3 => k2 H1 locs1 ⟨hset ▸ a1, a3⟩)
theorem g_putI {ci k N idx o : Nat} {v : Int} (hd : decode Y.2.1 pc = .ok (.putfield idx, 3)) (hf : FL Y.1.cls idx ci k) (hk : k < N) (hF : FK ci k = (0, 0)) (ho : Sh o = (10 + ci, N)) (kk : Go X Y d (pc + 3) ls st (wr M o k v) Post) : Go X Y d pc ls (XI v :: XR o :: st) M Post :=
  go_put (ty := .int) hd hf ho hk (XI v) rfl (by rw [xfv, hF, wr_at, if_pos rfl]; rfl) (fun C T N _ h => by
    rw [hF] at h
    rcases h with ⟨_, h1, h2⟩ | ⟨h, _⟩ | ⟨h, _⟩ | h
    · exact ⟨h2, by rw [h1]; decide +kernel⟩
    · exact absurd h (by decide)
    · exact absurd h (by decide)
    · exact absurd h (by decide)) rfl rfl (fun h => by rw [xkO ho, hF]; exact h) kk
theorem g_putJ {ci k N idx o : Nat} {v : Int} (hd : decode Y.2.1 pc = .ok (.putfield idx, 3)) (hf : FL Y.1.cls idx ci k) (hk : k < N) (hF : FK ci k = (1, 0)) (ho : Sh o = (10 + ci, N)) (kk : Go X Y d (pc + 3) ls st (wr M o k v) Post) : Go X Y d pc ls (XL v :: XR o :: st) M Post :=
  go_put (ty := .long) hd hf ho hk (XL v) rfl (by rw [xfv, hF, wr_at, if_pos rfl]; rfl) (fun C T N _ h => by
    rw [hF] at h
    rcases h with ⟨h, _⟩ | ⟨_, h1, h2⟩ | ⟨h, _⟩ | h
    · exact absurd h (by decide)
    · exact ⟨h2, by rw [h1]; decide +kernel⟩
    · exact absurd h (by decide)
    · exact absurd h (by decide)) rfl rfl (fun h => by rw [xkO ho, hF]; exact h) kk
theorem z01 {v : Int} (h : v = 0 ∨ v = 1) : narrow .boolean (.int (Int32.ofInt v)) = .int (Int32.ofInt v) ∧ fits .boolean (.int (Int32.ofInt v)) = true := by
  rcases h with rfl | rfl <;> exact ⟨rfl, rfl⟩
theorem g_putZ {ci k N idx o : Nat} {v : Int} (hd : decode Y.2.1 pc = .ok (.putfield idx, 3)) (hf : FL Y.1.cls idx ci k) (hk : k < N) (hF : FK ci k = (2, 0)) (ho : Sh o = (10 + ci, N)) (hv : v = 0 ∨ v = 1) (kk : Go X Y d (pc + 3) ls st (wr M o k v) Post) : Go X Y d pc ls (XI v :: XR o :: st) M Post :=
  go_put (ty := .boolean) hd hf ho hk (XI v) rfl (by rw [xfv, hF, wr_at, if_pos rfl]; rfl) (fun C T N _ h => by
    rw [hF] at h
    rcases h with ⟨h, _⟩ | ⟨h, _⟩ | ⟨_, h1, h2⟩ | h
    · exact absurd h (by decide)
    · exact absurd h (by decide)
    · exact ⟨h2, by rw [h1]; decide +kernel⟩
    · exact absurd h (by decide)) (z01 hv).1 (z01 hv).2 (fun h => by rw [xkO ho, hF]; exact hv) kk
-- arrays: reading
theorem xk1 {i n j : Nat} (h : Sh i = (1, n)) : xkind i j = 0 := by unfold xkind; rw [h]; rfl
theorem xk2 {i n j : Nat} (h : Sh i = (2, n)) : xkind i j = 1 := by unfold xkind; rw [h]; rfl
theorem xk3 {i n j : Nat} (h : Sh i = (3, n)) : xkind i j = 2 := by unfold xkind; rw [h]; rfl
theorem MR_i {i n j : Nat} (o : MR M) (h : Sh i = (1, n)) : i32 (M i j) := by have := o i j; rw [xk1 h] at this; exact this
theorem MR_l {i n j : Nat} (o : MR M) (h : Sh i = (2, n)) : i64 (M i j) := by have := o i j; rw [xk2 h] at this; exact this
theorem MR_z {i n j : Nat} (o : MR M) (h : Sh i = (3, n)) : M i j = 0 ∨ M i j = 1 := by have := o i j; rw [xk3 h] at this; exact this
theorem g_iald {a n : Nat} {i : Int} (hd : decode Y.2.1 pc = .ok (.iaload, 1)) (ha : Sh a = (1, n)) (h0 : 0 ≤ i) (h1 : i < n) (kk : Go X Y d (pc + 1) ls (XI (M a i.toNat) :: st) M Post) : Go X Y d pc ls (XI i :: XR a :: st) M Post := by
  intro o1 o2 o3 p e R s m args below meth c cells slots Q H locs lsA C F hl K
  obtain ⟨q, hq⟩ := xat (Sh_mem ha (by decide))
  have hat := ws_at X M hq
  rw [xcont1 X M ha] at hat
  have k2 := kk o1 (ok_cI (MR_i o3 ha) (ok_t (ok_t o2))) o3 p e R s m args below meth c cells slots Q H locs lsA C F hl K
  rw [← i32_nat (ok_hI o2) h0] at k2
  exact va_iald C.1 C.2.1 C.2.2.2.2.2.1 F.1 q 0 hat rfl (i32_vin (ok_hI o2) h0 h1) hd k2
theorem g_zald {a n : Nat} {i : Int} (hd : decode Y.2.1 pc = .ok (.baload, 1)) (ha : Sh a = (3, n)) (h0 : 0 ≤ i) (h1 : i < n) (kk : Go X Y d (pc + 1) ls (XI (M a i.toNat) :: st) M Post) : Go X Y d pc ls (XI i :: XR a :: st) M Post := by
  intro o1 o2 o3 p e R s m args below meth c cells slots Q H locs lsA C F hl K
  obtain ⟨q, hq⟩ := xat (Sh_mem ha (by decide))
  have hat := ws_at X M hq
  rw [xcont3 X M ha] at hat
  have k2 := kk o1 (ok_cI (by rcases MR_z (j := i.toNat) o3 ha with z | z <;> (rw [z]; constructor <;> decide)) (ok_t (ok_t o2))) o3 p e R s m args below meth c cells slots Q H locs lsA C F hl K
  rw [← i32_nat (ok_hI o2) h0] at k2
  exact va_zald C.1 C.2.1 C.2.2.2.2.2.1 F.1 q 2 hat rfl (i32_vin (ok_hI o2) h0 h1) hd k2
theorem g_lald {a n : Nat} {i : Int} (hd : decode Y.2.1 pc = .ok (.laload, 1)) (ha : Sh a = (2, n)) (h0 : 0 ≤ i) (h1 : i < n) (kk : Go X Y d (pc + 1) ls (XL (M a i.toNat) :: st) M Post) : Go X Y d pc ls (XI i :: XR a :: st) M Post := by
  intro o1 o2 o3 p e R s m args below meth c cells slots Q H locs lsA C F hl K
  obtain ⟨q, hq⟩ := xat (Sh_mem ha (by decide))
  have hat := ws_at X M hq
  rw [xcont2 X M ha] at hat
  have k2 := kk o1 (ok_cL (MR_l o3 ha) (ok_t (ok_t o2))) o3 p e R s m args below meth c cells slots Q H locs lsA C F hl K
  rw [← i32_nat (ok_hI o2) h0] at k2
  exact va_lald C.1 C.2.1 C.2.2.2.2.2.1 F.1 q 1 hat rfl (i32_vin (ok_hI o2) h0 h1) hd k2
theorem xrf_at {X : XC} {a n j : Nat} (h : j < n) : va_rf (xrf X.ad a n j) = xc X.ad (XR (a + 36 + 16 * j)) := by unfold xrf; rw [if_pos h]; rfl
theorem g_aald {a n kd : Nat} {i : Int} (hd : decode Y.2.1 pc = .ok (.aaload, 1)) (ha : Sh a = (kd, n)) (hkd : kd = 4 ∨ kd = 5 ∨ kd = 6) (h0 : 0 ≤ i) (h1 : i < n) (kk : Go X Y d (pc + 1) ls (XR (a + 36 + 16 * i.toNat) :: st) M Post) : Go X Y d pc ls (XI i :: XR a :: st) M Post := by
  intro o1 o2 o3 p e R s m args below meth c cells slots Q H locs lsA C F hl K
  obtain ⟨q, hq⟩ := xat (Sh_mem ha (by omega))
  have hat := ws_at X M hq
  have k2 := kk o1 (ok_cR (ok_t (ok_t o2))) o3 p e R s m args below meth c cells slots Q H locs lsA C F hl K
  have k3 : W p X.1 e R s m args below meth c H locs cells slots Q (F0 m (pc + 1) lsA (va_rf (xrf X.ad a n (Int32.ofInt i).toNatClampNeg) :: xst X st)) := by
    rw [i32_nat (ok_hI o2) h0, xrf_at (by omega)]; exact k2
  have hlt : (Int32.ofInt i).toNatClampNeg < n := by rw [i32_nat (ok_hI o2) h0]; omega
  rcases hkd with rfl | rfl | rfl
  · rw [xcont4 X M ha] at hat
    exact va_aldq C.1 C.2.1 C.2.2.2.2.2.1 F.1 q 3 hat rfl (i32_vin (ok_hI o2) h0 h1) hd k3
  · rw [xcont5 X M ha] at hat
    exact va_aldq C.1 C.2.1 C.2.2.2.2.2.1 F.1 q 4 hat rfl (i32_vin (ok_hI o2) h0 h1) hd k3
  · rw [xcont6 X M ha] at hat
    exact W.aald (v := va_rf (xrf X.ad a n (Int32.ofInt i).toNatClampNeg)) (ty := .array .long) C.1 C.2.1 (F.1 q _ hat) ((C.2.2.2.2.2.1.2 5 _ rfl).1 n (fun j => va_rf (xrf X.ad a n j))) rfl (fun z => by cases z) (by show ¬ (_ ∨ (arrV _ _ _).slots.size ≤ _); rw [arrV_size]; exact i32_vin (ok_hI o2) h0 h1) (by show (arrV _ _ _).slots[_]? = _; rw [arrV_read _ _ hlt]) rfl rfl hd k3
theorem g_alen {a n kd : Nat} (hd : decode Y.2.1 pc = .ok (.arraylength, 1)) (ha : Sh a = (kd, n)) (hkd : 1 ≤ kd ∧ kd ≤ 6) (hn : n < 1000) (kk : Go X Y d (pc + 1) ls (XI n :: st) M Post) : Go X Y d pc ls (XR a :: st) M Post := by
  intro o1 o2 o3 p e R s m args below meth c cells slots Q H locs lsA C F hl K
  obtain ⟨q, hq⟩ := xat (Sh_mem ha (by omega))
  have hat := ws_at X M hq
  have k2 := kk o1 (ok_cI (by constructor <;> omega) (ok_t o2)) o3 p e R s m args below meth c cells slots Q H locs lsA C F hl K
  have hv : Int32.ofNat n = Int32.ofInt (n : Int) := Int32.ofInt_eq_ofNat.symm
  rcases (show kd = 1 ∨ kd = 2 ∨ kd = 3 ∨ kd = 4 ∨ kd = 5 ∨ kd = 6 by omega) with rfl | rfl | rfl | rfl | rfl | rfl
  · rw [xcont1 X M ha] at hat; exact va_alen C.1 C.2.1 C.2.2.2.2.2.1 F.1 q 0 hat rfl hv hd k2
  · rw [xcont2 X M ha] at hat; exact va_alen C.1 C.2.1 C.2.2.2.2.2.1 F.1 q 1 hat rfl hv hd k2
  · rw [xcont3 X M ha] at hat; exact va_alen C.1 C.2.1 C.2.2.2.2.2.1 F.1 q 2 hat rfl hv hd k2
  · rw [xcont4 X M ha] at hat; exact va_alen C.1 C.2.1 C.2.2.2.2.2.1 F.1 q 3 hat rfl hv hd k2
  · rw [xcont5 X M ha] at hat; exact va_alen C.1 C.2.1 C.2.2.2.2.2.1 F.1 q 4 hat rfl hv hd k2
  · rw [xcont6 X M ha] at hat; exact va_alen C.1 C.2.1 C.2.2.2.2.2.1 F.1 q 5 hat rfl hv hd k2
-- the static PLACES (7), the script (5)
theorem g_gets {idx : Nat} (hd : decode Y.2.1 pc = .ok (.getstatic idx, 3)) (hw : Cond.fieldLinkNest Y.1.cls idx "KeepCount" "PLACES" "[I" "KeepCount" ∈ xtbl) (kk : Go X Y d (pc + 3) ls (XR 7 :: st) M Post) : Go X Y d pc ls st M Post := by
  intro o1 o2 o3 p e R s m args below meth c cells slots Q H locs lsA C F hl K
  have k2 := kk o1 (ok_cR o2) o3 p e R s m args below meth c cells slots Q H locs lsA C F hl K
  obtain ⟨hx, hb, hml, hown, hts, hK, hI, hSt, -⟩ := C
  exact va_getsN hx hb hSt.1 F.2 hown (hts _ hw) (fun x h => h) hd k2
theorem g_alenC (hd : decode Y.2.1 pc = .ok (.arraylength, 1)) (kk : Go X Y d (pc + 1) ls (XI 8 :: st) M Post) : Go X Y d pc ls (XR 7 :: st) M Post := by
  intro o1 o2 o3 p e R s m args below meth c cells slots Q H locs lsA C F hl K
  have k2 := kk o1 (ok_cI (by constructor <;> decide) (ok_t o2)) o3 p e R s m args below meth c cells slots Q H locs lsA C F hl K
  obtain ⟨hx, hb, hml, hown, hts, hK, hI, hSt, -⟩ := C
  exact va_tlen hx hb hSt.2.1 F.2 (v := Int32.ofInt 8) rfl hd k2
theorem xpl_ok (j : Nat) : i32 (xpl j) := by
  by_cases h : j < 8
  · rcases (show j = 0 ∨ j = 1 ∨ j = 2 ∨ j = 3 ∨ j = 4 ∨ j = 5 ∨ j = 6 ∨ j = 7 by omega) with rfl | rfl | rfl | rfl | rfl | rfl | rfl | rfl <;> (constructor <;> decide)
  · have : xpl j = 0 := by unfold xpl; rw [List.getD_eq_getElem?_getD, List.getElem?_eq_none (by show 8 ≤ j; omega)]; rfl
    rw [this]; exact i32_0
theorem g_ialdC {i : Int} (hd : decode Y.2.1 pc = .ok (.iaload, 1)) (h0 : 0 ≤ i) (h1 : i < 8) (kk : Go X Y d (pc + 1) ls (XI (xpl i.toNat) :: st) M Post) : Go X Y d pc ls (XI i :: XR 7 :: st) M Post := by
  intro o1 o2 o3 p e R s m args below meth c cells slots Q H locs lsA C F hl K
  have k2 := kk o1 (ok_cI (xpl_ok _) (ok_t (ok_t o2))) o3 p e R s m args below meth c cells slots Q H locs lsA C F hl K
  obtain ⟨hx, hb, hml, hown, hts, hK, hI, hSt, -⟩ := C
  rw [← i32_nat (ok_hI o2) h0] at k2
  exact va_ti hx hb hSt.2.1 F.2 (i32_vin (n := 8) (ok_hI o2) h0 h1) rfl hd k2
theorem g_alenS (hL : X.2.2.2.2.1 < 2147483648) (hd : decode Y.2.1 pc = .ok (.arraylength, 1)) (kk : Go X Y d (pc + 1) ls (XI (X.2.2.2.2.1 : Nat) :: st) M Post) : Go X Y d pc ls (XR 5 :: st) M Post := by
  intro o1 o2 o3 p e R s m args below meth c cells slots Q H locs lsA C F hl K
  have k2 := kk o1 (ok_cI (by constructor <;> omega) (ok_t o2)) o3 p e R s m args below meth c cells slots Q H locs lsA C F hl K
  obtain ⟨hx, hb, hml, hown, hts, hK, hI, hSt, -⟩ := C
  refine va_slen hx hb hSt.2.2.1 hSt.2.2.2.1 hSt.2.2.2.2 F.2 hd ?_
  rw [← Int32.ofInt_eq_ofNat]; exact k2
theorem g_ialdS {i : Int} (hd : decode Y.2.1 pc = .ok (.iaload, 1)) (h0 : 0 ≤ i) (h1 : i < X.2.2.2.2.1) (kk : Go X Y d (pc + 1) ls (XI (X.2.2.2.2.2 i.toNat).toInt :: st) M Post) : Go X Y d pc ls (XI i :: XR 5 :: st) M Post := by
  intro o1 o2 o3 p e R s m args below meth c cells slots Q H locs lsA C F hl K
  have k2 := kk o1 (ok_cI (i32_to _) (ok_t (ok_t o2))) o3 p e R s m args below meth c cells slots Q H locs lsA C F hl K
  obtain ⟨hx, hb, hml, hown, hts, hK, hI, hSt, -⟩ := C
  refine va_sld hx hb hSt.2.2.1 hSt.2.2.2.1 hSt.2.2.2.2 F.2 (i32_vin (ok_hI o2) h0 h1) hd ?_
  rw [i32_nat (ok_hI o2) h0, ← Int32.ofInt_toInt (X.2.2.2.2.2 i.toNat)]; exact k2
end
