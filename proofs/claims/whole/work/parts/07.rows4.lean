section
variable {X : XC} {Y : XY} {d pc : Nat} {ls ls' : List (Nat × XV)} {st : List XV} {M : Mem} {Post : Option XV → Mem → Prop}
theorem g_iast {a n : Nat} {i v : Int} (hd : decode Y.2.1 pc = .ok (.iastore, 1)) (ha : Sh a = (1, n)) (h0 : 0 ≤ i) (h1 : i < n) (kk : Go X Y d (pc + 1) ls st (wr M a i.toNat v) Post) : Go X Y d pc ls (XI v :: XI i :: XR a :: st) M Post := by
  intro o1 o2 o3 p e R s m args below meth c cells slots Q H locs lsA C F hl K
  obtain ⟨q, hq⟩ := xat (Sh_mem ha (by decide))
  have hat := ws_at X M hq
  rw [xcont1 X M ha] at hat
  refine va_iast C.1 C.2.1 C.2.2.2.2.2.1 F.1 (wsD X M C.2.2.2.2.2.2.1) F.2 q 0 hat rfl (i32_vin (ok_hI (ok_t o2)) h0 h1) hd (fun H1 locs1 a1 _ a3 => ?_)
  refine kk o1 (ok_t (ok_t (ok_t o2))) (MR_wr o3 (by rw [xk1 ha]; exact ok_hI o2)) p e R s m args below meth c cells slots Q H1 locs1 lsA C ⟨?_, a3⟩ hl K
  rw [← ws_set X hq (fun j hj => wr_ne hj), xcont1 X (wr M a i.toNat v) ha]
  rw [i32_nat (ok_hI (ok_t o2)) h0] at a1
  have e : upd (fun j => Int32.ofInt (M a j)) i.toNat (Int32.ofInt v) = fun j => Int32.ofInt (wr M a i.toNat v a j) := by
    funext j; rw [wr_at]; unfold upd; by_cases h : j = i.toNat
    · rw [if_pos h, if_pos h]
    · rw [if_neg h, if_neg h]
  rw [e] at a1
  exact a1
theorem z01n {v : Int} (h : v = 0 ∨ v = 1) : vp_nar .boolean (Int32.ofInt v) = Int32.ofInt v := by rcases h with rfl | rfl <;> rfl
theorem g_zast {a n : Nat} {i v : Int} (hd : decode Y.2.1 pc = .ok (.bastore, 1)) (ha : Sh a = (3, n)) (h0 : 0 ≤ i) (h1 : i < n) (hv : v = 0 ∨ v = 1) (kk : Go X Y d (pc + 1) ls st (wr M a i.toNat v) Post) : Go X Y d pc ls (XI v :: XI i :: XR a :: st) M Post := by
  intro o1 o2 o3 p e R s m args below meth c cells slots Q H locs lsA C F hl K
  obtain ⟨q, hq⟩ := xat (Sh_mem ha (by decide))
  have hat := ws_at X M hq
  rw [xcont3 X M ha] at hat
  refine va_zast C.1 C.2.1 C.2.2.2.2.2.1 F.1 (wsD X M C.2.2.2.2.2.2.1) F.2 q 2 hat rfl (i32_vin (ok_hI (ok_t o2)) h0 h1) hd (fun H1 locs1 a1 _ a3 => ?_)
  refine kk o1 (ok_t (ok_t (ok_t o2))) (MR_wr o3 (by rw [xk3 ha]; exact hv)) p e R s m args below meth c cells slots Q H1 locs1 lsA C ⟨?_, a3⟩ hl K
  rw [← ws_set X hq (fun j hj => wr_ne hj), xcont3 X (wr M a i.toNat v) ha]
  rw [i32_nat (ok_hI (ok_t o2)) h0, z01n hv] at a1
  have e : upd (fun j => Int32.ofInt (M a j)) i.toNat (Int32.ofInt v) = fun j => Int32.ofInt (wr M a i.toNat v a j) := by
    funext j; rw [wr_at]; unfold upd; by_cases h : j = i.toNat
    · rw [if_pos h, if_pos h]
    · rw [if_neg h, if_neg h]
  rw [e] at a1
  exact a1
theorem g_last {a n : Nat} {i v : Int} (hd : decode Y.2.1 pc = .ok (.lastore, 1)) (ha : Sh a = (2, n)) (h0 : 0 ≤ i) (h1 : i < n) (kk : Go X Y d (pc + 1) ls st (wr M a i.toNat v) Post) : Go X Y d pc ls (XL v :: XI i :: XR a :: st) M Post := by
  intro o1 o2 o3 p e R s m args below meth c cells slots Q H locs lsA C F hl K
  obtain ⟨q, hq⟩ := xat (Sh_mem ha (by decide))
  have hat := ws_at X M hq
  rw [xcont2 X M ha] at hat
  refine va_last C.1 C.2.1 C.2.2.2.2.2.1 F.1 (wsD X M C.2.2.2.2.2.2.1) F.2 q 1 hat rfl (i32_vin (ok_hI (ok_t o2)) h0 h1) hd (fun H1 locs1 a1 _ a3 => ?_)
  refine kk o1 (ok_t (ok_t (ok_t o2))) (MR_wr o3 (by rw [xk2 ha]; exact ok_hL o2)) p e R s m args below meth c cells slots Q H1 locs1 lsA C ⟨?_, a3⟩ hl K
  rw [← ws_set X hq (fun j hj => wr_ne hj), xcont2 X (wr M a i.toNat v) ha]
  rw [i32_nat (ok_hI (ok_t o2)) h0] at a1
  have e : vp_updL (fun j => Int64.ofInt (M a j)) i.toNat (Int64.ofInt v) = fun j => Int64.ofInt (wr M a i.toNat v a j) := by
    funext j; rw [wr_at]; unfold vp_updL; by_cases h : j = i.toNat
    · rw [if_pos h, if_pos h]
    · rw [if_neg h, if_neg h]
  rw [e] at a1
  exact a1
-- arraycopy
theorem w_nat : Cond.native arraycopyName ∈ xtbl := at_x 839 (by decide +kernel) rfl
theorem w_stt : Cond.static arraycopyName ∈ xtbl := at_x 838 (by decide +kernel) rfl
theorem w_inS : Cond.initialized "java/lang/System" ∈ xtbl := at_x 81 (by decide +kernel) rfl
theorem cp_ne {a i b j n x : Nat} (h : x ≠ b) : cpM M a i b j n x = M x := by
  funext k; unfold cpM; rw [if_neg (fun z => h z.1)]
theorem cp_at {a i b j n k : Nat} : cpM M a i b j n b k = if j ≤ k ∧ k < j + n then M a (i + (k - j)) else M b k := by
  unfold cpM
  by_cases h : j ≤ k ∧ k < j + n
  · rw [if_pos ⟨rfl, h⟩, if_pos h]
  · rw [if_neg (fun z => h z.2), if_neg h]
theorem MR_cp {a i b j n : Nat} (h : MR M) (hk : ∀ x y, xkind a x = xkind b y) : MR (cpM M a i b j n) := by
  intro x k
  unfold cpM
  by_cases e : x = b ∧ j ≤ k ∧ k < j + n
  · rw [if_pos e, e.1]; rw [← hk (i + (k - j)) k]; exact h a _
  · rw [if_neg e]; exact h x k
def xcat (st : List XV) : Nat := (st.map (fun v => if xlong v then 2 else 1)).sum
theorem xcat_eq (X : XC) : ∀ st : List XV, ((xst X st).map fun v => v.category).sum = xcat st
  | [] => rfl
  | v :: st => by
    have h := xcat_eq X st
    show (xc X.ad v).category + ((xst X st).map fun v => v.category).sum = (if xlong v then 2 else 1) + xcat st
    rw [h]
    rcases v with v | v | v | v <;> rfl
theorem g_copy {a b kd n0 n1 idx : Nat} {sp dp n : Int} (hd : decode Y.2.1 pc = .ok (.invokestatic idx, 3)) (hw : Cond.methodLink Y.1.cls idx arraycopyName ∈ xtbl) (ha : Sh a = (kd, n0)) (hb0 : Sh b = (kd, n1)) (hkd : kd = 1 ∨ kd = 2 ∨ kd = 3) (h1 : 0 ≤ sp) (h2 : 0 ≤ dp) (h3 : 0 ≤ n) (h4 : sp + n ≤ n0) (h5 : dp + n ≤ n1) (hst : xcat st ≤ 8)
    (kk : Go X Y (d + 1) (pc + 3) ls st (cpM M a sp.toNat b dp.toNat n.toNat) Post) : Go X Y (d + 1) pc ls (XI n :: XI dp :: XR b :: XI sp :: XR a :: st) M Post := by
  intro o1 o2 o3 p e R s m args below meth c cells slots Q H locs lsA C F hl K
  obtain ⟨q0, hq0⟩ := xat (Sh_mem ha (by omega))
  obtain ⟨q1, hq1⟩ := xat (Sh_mem hb0 (by omega))
  have hat0 := ws_at X M hq0
  have hat1 := ws_at X M hq1
  have okn := ok_hI o2
  have okd := ok_hI (ok_t o2)
  have oks := ok_hI (ok_t (ok_t (ok_t o2)))
  obtain ⟨hx, hb, hml, hown, hts, hK, hI, hSt, hfr, hlo, hce, hsl⟩ := id C
  have e1 := i32_nat oks h1
  have e2 := i32_nat okd h2
  have e3 := i32_nat okn h3
  have n1' : ¬ Int32.ofInt sp < 0 := fun z => by have := (i32_lt oks i32_0).mp z; omega
  have n2' : ¬ Int32.ofInt dp < 0 := fun z => by have := (i32_lt okd i32_0).mp z; omega
  have n3' : ¬ Int32.ofInt n < 0 := fun z => by have := (i32_lt okn i32_0).mp z; omega
  have hloc : ((xst X st).map fun v => v.category).sum + (nativeFrameWords "java/lang/System" "arraycopy" 5 + 11) ≤ R.locals := by
    rw [xcat_eq]
    have : nativeFrameWords "java/lang/System" "arraycopy" 5 ≤ 18 := by decide +kernel
    omega
  have fin : ∀ (H1 : Heap) (locs1 : List Loc), va_P X.2.1 vwCl (wsM X (cpM M a sp.toNat b dp.toNat n.toNat)) H1 → va_S (XA X) s.heap H1 locs1 → (∀ x y, xkind a x = xkind b y) → W p X.1 e R s m args below meth c H1 locs1 cells slots Q (F0 m (pc + 3) lsA (xst X st)) := fun H1 locs1 a1 a3 hk =>
    kk o1 (ok_t (ok_t (ok_t (ok_t (ok_t o2))))) (MR_cp o3 hk) p e R s m args below meth c cells slots Q H1 locs1 lsA C ⟨a1, a3⟩ hl K
  rcases hkd with rfl | rfl | rfl
  · rw [xcont1 X M ha] at hat0
    rw [xcont1 X M hb0] at hat1
    refine va_copyi hx hb (hml.trans hl.1.symm) hown (hts _ hw) (hts _ w_nat) (hts _ w_stt) (hts _ w_inS) hK F.1 (wsD X M hI) F.2 q0 q1 0 0 hat0 hat1 rfl rfl rfl n1' n2' n3' (by rw [e1, e3]; omega) (by rw [e2, e3]; omega) (fun i hi => rfl) (by omega) hloc hd (fun H1 locs1 a1 _ a3 => ?_)
    rw [e1, e2, e3] at a1
    refine fin H1 locs1 ?_ a3 (fun x y => by rw [xk1 ha, xk1 hb0])
    rw [← ws_set X hq1 (fun j hj => cp_ne hj), xcont1 X _ hb0]
    have e : va_cpy (fun j => Int32.ofInt (M a j)) (fun j => Int32.ofInt (M b j)) sp.toNat dp.toNat n.toNat = fun j => Int32.ofInt (cpM M a sp.toNat b dp.toNat n.toNat b j) := by
      funext j; rw [cp_at]; unfold va_cpy; by_cases h : dp.toNat ≤ j ∧ j < dp.toNat + n.toNat
      · rw [if_pos h, if_pos h]
      · rw [if_neg h, if_neg h]
    rw [e] at a1
    exact a1
  · rw [xcont2 X M ha] at hat0
    rw [xcont2 X M hb0] at hat1
    refine va_copyl hx hb (hml.trans hl.1.symm) hown (hts _ hw) (hts _ w_nat) (hts _ w_stt) (hts _ w_inS) hK F.1 (wsD X M hI) F.2 q0 q1 1 1 hat0 hat1 rfl rfl rfl n1' n2' n3' (by rw [e1, e3]; omega) (by rw [e2, e3]; omega) (fun i hi => rfl) (by omega) hloc hd (fun H1 locs1 a1 _ a3 => ?_)
    rw [e1, e2, e3] at a1
    refine fin H1 locs1 ?_ a3 (fun x y => by rw [xk2 ha, xk2 hb0])
    rw [← ws_set X hq1 (fun j hj => cp_ne hj), xcont2 X _ hb0]
    have e : va_cpy (fun j => Int64.ofInt (M a j)) (fun j => Int64.ofInt (M b j)) sp.toNat dp.toNat n.toNat = fun j => Int64.ofInt (cpM M a sp.toNat b dp.toNat n.toNat b j) := by
      funext j; rw [cp_at]; unfold va_cpy; by_cases h : dp.toNat ≤ j ∧ j < dp.toNat + n.toNat
      · rw [if_pos h, if_pos h]
      · rw [if_neg h, if_neg h]
    rw [e] at a1
    exact a1
  · rw [xcont3 X M ha] at hat0
    rw [xcont3 X M hb0] at hat1
    refine va_copyi (ty := .boolean) hx hb (hml.trans hl.1.symm) hown (hts _ hw) (hts _ w_nat) (hts _ w_stt) (hts _ w_inS) hK F.1 (wsD X M hI) F.2 q0 q1 2 2 hat0 hat1 rfl rfl rfl n1' n2' n3' (by rw [e1, e3]; omega) (by rw [e2, e3]; omega) (fun i hi => (z01 (MR_z o3 ha)).2) (by omega) hloc hd (fun H1 locs1 a1 _ a3 => ?_)
    rw [e1, e2, e3] at a1
    refine fin H1 locs1 ?_ a3 (fun x y => by rw [xk3 ha, xk3 hb0])
    rw [← ws_set X hq1 (fun j hj => cp_ne hj), xcont3 X _ hb0]
    have e : va_cpy (fun j => Int32.ofInt (M a j)) (fun j => Int32.ofInt (M b j)) sp.toNat dp.toNat n.toNat = fun j => Int32.ofInt (cpM M a sp.toNat b dp.toNat n.toNat b j) := by
      funext j; rw [cp_at]; unfold va_cpy; by_cases h : dp.toNat ≤ j ∧ j < dp.toNat + n.toNat
      · rw [if_pos h, if_pos h]
      · rw [if_neg h, if_neg h]
    rw [e] at a1
    exact a1
end
