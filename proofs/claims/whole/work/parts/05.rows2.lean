section
variable {X : XC} {Y : XY} {d pc : Nat} {ls ls' : List (Nat × XV)} {st : List XV} {M : Mem} {Post : Option XV → Mem → Prop}
theorem go_br {X : XC} {Y : XY} {d pc p1 p2 : Nat} {ls : List (Nat × XV)} {st st' : List XV} {M : Mem} {Post : Option XV → Mem → Prop} {P : Prop}
    (h : ∀ {p : Program} {e : Env} {R : Room} {s : State} {m : MethodId} {args : Array Value} {below : List Frame} {meth : Method} {c : Code} {cells slots : Nat} {Q : State → Prop} {H : Heap} {locs : List Loc} {lsA : Array Slot}, p.tables.exec = Jvm.exec → c.code = Y.2.1 → (∀ v ∈ st, xok v) →
      (P → W p X.1 e R s m args below meth c H locs cells slots Q (F0 m p1 lsA (xst X st'))) → (¬ P → W p X.1 e R s m args below meth c H locs cells slots Q (F0 m p2 lsA (xst X st'))) → W p X.1 e R s m args below meth c H locs cells slots Q (F0 m pc lsA (xst X st)))
    (hok : (∀ v ∈ st, xok v) → ∀ v ∈ st', xok v) (k1 : P → Go X Y d p1 ls st' M Post) (k2 : ¬ P → Go X Y d p2 ls st' M Post) : Go X Y d pc ls st M Post := by
  intro o1 o2 o3 p e R s m args below meth c cells slots Q H locs lsA C F hl K
  exact h C.1 C.2.1 o2 (fun z => k1 z o1 (hok o2) o3 p e R s m args below meth c cells slots Q H locs lsA C F hl K) (fun z => k2 z o1 (hok o2) o3 p e R s m args below meth c cells slots Q H locs lsA C F hl K)
theorem g_goto {off : Int} {tgt : Nat} (hd : decode Y.2.1 pc = .ok (.goto off, 3)) (ht : (pc : Int) + off = (tgt : Int)) (k : Go X Y d tgt ls st M Post) : Go X Y d pc ls st M Post :=
  go_stp (fun hx hb _ _ _ _ _ q => lv_goto hx hb hd ht q) (fun _ h => h) k
theorem g_icmp_eq {a b off : Int} {tgt : Nat} (hd : decode Y.2.1 pc = .ok (.if_icmp .eq off, 3)) (ht : (pc : Int) + off = (tgt : Int)) (k1 : a = b → Go X Y d tgt ls st M Post) (k2 : ¬ a = b → Go X Y d (pc + 3) ls st M Post) : Go X Y d pc ls (XI b :: XI a :: st) M Post :=
  go_br (fun hx hb o q1 q2 => lv_icmp_eq hx hb hd ht (fun z => q1 ((i32_inj (ok_hI (ok_t o)) (ok_hI o)).mp z)) (fun z => q2 (fun y => z ((i32_inj (ok_hI (ok_t o)) (ok_hI o)).mpr y)))) (fun h => ok_t (ok_t h)) k1 k2
theorem g_if_eq {a off : Int} {tgt : Nat} (hd : decode Y.2.1 pc = .ok (.ifCond .eq off, 3)) (ht : (pc : Int) + off = (tgt : Int)) (k1 : a = 0 → Go X Y d tgt ls st M Post) (k2 : ¬ a = 0 → Go X Y d (pc + 3) ls st M Post) : Go X Y d pc ls (XI a :: st) M Post :=
  go_br (fun hx hb o q1 q2 => lv_if_eq hx hb hd ht (fun z => q1 ((i32_inj (ok_hI o) i32_0).mp z)) (fun z => q2 (fun y => z ((i32_inj (ok_hI o) i32_0).mpr y)))) (fun h => ok_t h) k1 k2
theorem g_icmp_lt {a b off : Int} {tgt : Nat} (hd : decode Y.2.1 pc = .ok (.if_icmp .lt off, 3)) (ht : (pc : Int) + off = (tgt : Int)) (k1 : a < b → Go X Y d tgt ls st M Post) (k2 : ¬ a < b → Go X Y d (pc + 3) ls st M Post) : Go X Y d pc ls (XI b :: XI a :: st) M Post :=
  go_br (fun hx hb o q1 q2 => lv_icmp_lt hx hb hd ht (fun z => q1 ((i32_lt (ok_hI (ok_t o)) (ok_hI o)).mp z)) (fun z => q2 (fun y => z ((i32_lt (ok_hI (ok_t o)) (ok_hI o)).mpr y)))) (fun h => ok_t (ok_t h)) k1 k2
theorem g_if_lt {a off : Int} {tgt : Nat} (hd : decode Y.2.1 pc = .ok (.ifCond .lt off, 3)) (ht : (pc : Int) + off = (tgt : Int)) (k1 : a < 0 → Go X Y d tgt ls st M Post) (k2 : ¬ a < 0 → Go X Y d (pc + 3) ls st M Post) : Go X Y d pc ls (XI a :: st) M Post :=
  go_br (fun hx hb o q1 q2 => lv_if_lt hx hb hd ht (fun z => q1 ((i32_lt (ok_hI o) i32_0).mp z)) (fun z => q2 (fun y => z ((i32_lt (ok_hI o) i32_0).mpr y)))) (fun h => ok_t h) k1 k2
theorem g_icmp_ge {a b off : Int} {tgt : Nat} (hd : decode Y.2.1 pc = .ok (.if_icmp .ge off, 3)) (ht : (pc : Int) + off = (tgt : Int)) (k1 : b ≤ a → Go X Y d tgt ls st M Post) (k2 : ¬ b ≤ a → Go X Y d (pc + 3) ls st M Post) : Go X Y d pc ls (XI b :: XI a :: st) M Post :=
  go_br (fun hx hb o q1 q2 => lv_icmp_ge hx hb hd ht (fun z => q1 ((i32_le (ok_hI o) (ok_hI (ok_t o))).mp z)) (fun z => q2 (fun y => z ((i32_le (ok_hI o) (ok_hI (ok_t o))).mpr y)))) (fun h => ok_t (ok_t h)) k1 k2
theorem g_if_ge {a off : Int} {tgt : Nat} (hd : decode Y.2.1 pc = .ok (.ifCond .ge off, 3)) (ht : (pc : Int) + off = (tgt : Int)) (k1 : 0 ≤ a → Go X Y d tgt ls st M Post) (k2 : ¬ 0 ≤ a → Go X Y d (pc + 3) ls st M Post) : Go X Y d pc ls (XI a :: st) M Post :=
  go_br (fun hx hb o q1 q2 => lv_if_ge hx hb hd ht (fun z => q1 ((i32_le i32_0 (ok_hI o)).mp z)) (fun z => q2 (fun y => z ((i32_le i32_0 (ok_hI o)).mpr y)))) (fun h => ok_t h) k1 k2
theorem g_icmp_gt {a b off : Int} {tgt : Nat} (hd : decode Y.2.1 pc = .ok (.if_icmp .gt off, 3)) (ht : (pc : Int) + off = (tgt : Int)) (k1 : b < a → Go X Y d tgt ls st M Post) (k2 : ¬ b < a → Go X Y d (pc + 3) ls st M Post) : Go X Y d pc ls (XI b :: XI a :: st) M Post :=
  go_br (fun hx hb o q1 q2 => lv_icmp_gt hx hb hd ht (fun z => q1 ((i32_lt (ok_hI o) (ok_hI (ok_t o))).mp z)) (fun z => q2 (fun y => z ((i32_lt (ok_hI o) (ok_hI (ok_t o))).mpr y)))) (fun h => ok_t (ok_t h)) k1 k2
theorem g_if_gt {a off : Int} {tgt : Nat} (hd : decode Y.2.1 pc = .ok (.ifCond .gt off, 3)) (ht : (pc : Int) + off = (tgt : Int)) (k1 : 0 < a → Go X Y d tgt ls st M Post) (k2 : ¬ 0 < a → Go X Y d (pc + 3) ls st M Post) : Go X Y d pc ls (XI a :: st) M Post :=
  go_br (fun hx hb o q1 q2 => lv_if_gt hx hb hd ht (fun z => q1 ((i32_lt i32_0 (ok_hI o)).mp z)) (fun z => q2 (fun y => z ((i32_lt i32_0 (ok_hI o)).mpr y)))) (fun h => ok_t h) k1 k2
theorem g_icmp_le {a b off : Int} {tgt : Nat} (hd : decode Y.2.1 pc = .ok (.if_icmp .le off, 3)) (ht : (pc : Int) + off = (tgt : Int)) (k1 : a ≤ b → Go X Y d tgt ls st M Post) (k2 : ¬ a ≤ b → Go X Y d (pc + 3) ls st M Post) : Go X Y d pc ls (XI b :: XI a :: st) M Post :=
  go_br (fun hx hb o q1 q2 => lv_icmp_le hx hb hd ht (fun z => q1 ((i32_le (ok_hI (ok_t o)) (ok_hI o)).mp z)) (fun z => q2 (fun y => z ((i32_le (ok_hI (ok_t o)) (ok_hI o)).mpr y)))) (fun h => ok_t (ok_t h)) k1 k2
theorem g_if_le {a off : Int} {tgt : Nat} (hd : decode Y.2.1 pc = .ok (.ifCond .le off, 3)) (ht : (pc : Int) + off = (tgt : Int)) (k1 : a ≤ 0 → Go X Y d tgt ls st M Post) (k2 : ¬ a ≤ 0 → Go X Y d (pc + 3) ls st M Post) : Go X Y d pc ls (XI a :: st) M Post :=
  go_br (fun hx hb o q1 q2 => lv_if_le hx hb hd ht (fun z => q1 ((i32_le (ok_hI o) i32_0).mp z)) (fun z => q2 (fun y => z ((i32_le (ok_hI o) i32_0).mpr y)))) (fun h => ok_t h) k1 k2
theorem g_icmp_ne {a b off : Int} {tgt : Nat} (hd : decode Y.2.1 pc = .ok (.if_icmp .ne off, 3)) (ht : (pc : Int) + off = (tgt : Int)) (k1 : ¬ a = b → Go X Y d tgt ls st M Post) (k2 : a = b → Go X Y d (pc + 3) ls st M Post) : Go X Y d pc ls (XI b :: XI a :: st) M Post :=
  go_br (P := ¬ a = b) (fun hx hb o q1 q2 => lv_icmp_ne hx hb hd ht (fun z => q1 (fun y => z ((i32_inj (ok_hI (ok_t o)) (ok_hI o)).mpr y))) (fun z => q2 (fun y => y ((i32_inj (ok_hI (ok_t o)) (ok_hI o)).mp z)))) (fun h => ok_t (ok_t h)) k1 (fun z => k2 (Classical.not_not.mp z))
theorem g_if_ne {a off : Int} {tgt : Nat} (hd : decode Y.2.1 pc = .ok (.ifCond .ne off, 3)) (ht : (pc : Int) + off = (tgt : Int)) (k1 : ¬ a = 0 → Go X Y d tgt ls st M Post) (k2 : a = 0 → Go X Y d (pc + 3) ls st M Post) : Go X Y d pc ls (XI a :: st) M Post :=
  go_br (P := ¬ a = 0) (fun hx hb o q1 q2 => lv_if_ne hx hb hd ht (fun z => q1 (fun y => z ((i32_inj (ok_hI o) i32_0).mpr y))) (fun z => q2 (fun y => y ((i32_inj (ok_hI o) i32_0).mp z)))) (fun h => ok_t h) k1 (fun z => k2 (Classical.not_not.mp z))
theorem lg_cases {a b : Int} (ha : i64 a) (hb : i64 b) : (a < b ∧ lg_cmp (Int64.ofInt a) (Int64.ofInt b) = -1) ∨ (a = b ∧ lg_cmp (Int64.ofInt a) (Int64.ofInt b) = 0) ∨ (b < a ∧ lg_cmp (Int64.ofInt a) (Int64.ofInt b) = 1) := by
  rcases Int.lt_trichotomy a b with h | h | h
  · refine Or.inl ⟨h, ?_⟩
    unfold lg_cmp
    rw [if_neg (fun z => by have := (i64_lt hb ha).mp z; omega), if_neg (fun z => by have := (i64_inj ha hb).mp z; omega)]
  · refine Or.inr (Or.inl ⟨h, ?_⟩)
    unfold lg_cmp
    rw [if_neg (fun z => by have := (i64_lt hb ha).mp z; omega), if_pos ((i64_inj ha hb).mpr h)]
  · refine Or.inr (Or.inr ⟨h, ?_⟩)
    unfold lg_cmp
    rw [if_pos ((i64_lt hb ha).mpr h)]
theorem g_lcmp_eq {a b off : Int} {tgt : Nat} (hd : decode Y.2.1 pc = .ok (.lcmp, 1)) (hd2 : decode Y.2.1 (pc + 1) = .ok (.ifCond .eq off, 3)) (ht : ((pc + 1 : Nat) : Int) + off = (tgt : Int)) (k1 : a = b → Go X Y d tgt ls st M Post) (k2 : ¬ a = b → Go X Y d (pc + 4) ls st M Post) : Go X Y d pc ls (XL b :: XL a :: st) M Post := by
  refine go_br (P := a = b) (p1 := tgt) (p2 := pc + 4) (st' := st) (fun hx hb o q1 q2 => W.lcmp hx hb hd ?_) (fun h => ok_t (ok_t h)) (fun z => k1 z) (fun z => k2 (by omega))
  have ha := ok_hL (ok_t o)
  have hc := ok_hL o
  rcases lg_cases ha hc with ⟨h, e⟩ | ⟨h, e⟩ | ⟨h, e⟩ <;> rw [e] <;> refine lv_if_eq hx hb hd2 ht (fun z => ?_) (fun z => ?_) <;> first | (exact q1 (by omega)) | (exact q2 (by omega)) | (exact absurd z (by decide))
theorem g_lcmp_ne {a b off : Int} {tgt : Nat} (hd : decode Y.2.1 pc = .ok (.lcmp, 1)) (hd2 : decode Y.2.1 (pc + 1) = .ok (.ifCond .ne off, 3)) (ht : ((pc + 1 : Nat) : Int) + off = (tgt : Int)) (k1 : ¬ a = b → Go X Y d tgt ls st M Post) (k2 : a = b → Go X Y d (pc + 4) ls st M Post) : Go X Y d pc ls (XL b :: XL a :: st) M Post := by
  refine go_br (P := ¬ a = b) (p1 := tgt) (p2 := pc + 4) (st' := st) (fun hx hb o q1 q2 => W.lcmp hx hb hd ?_) (fun h => ok_t (ok_t h)) (fun z => k1 z) (fun z => k2 (by omega))
  have ha := ok_hL (ok_t o)
  have hc := ok_hL o
  rcases lg_cases ha hc with ⟨h, e⟩ | ⟨h, e⟩ | ⟨h, e⟩ <;> rw [e] <;> refine lv_if_ne hx hb hd2 ht (fun z => ?_) (fun z => ?_) <;> first | (exact q1 (by omega)) | (exact q2 (by omega)) | (exact absurd z (by decide))
theorem g_lcmp_lt {a b off : Int} {tgt : Nat} (hd : decode Y.2.1 pc = .ok (.lcmp, 1)) (hd2 : decode Y.2.1 (pc + 1) = .ok (.ifCond .lt off, 3)) (ht : ((pc + 1 : Nat) : Int) + off = (tgt : Int)) (k1 : a < b → Go X Y d tgt ls st M Post) (k2 : ¬ a < b → Go X Y d (pc + 4) ls st M Post) : Go X Y d pc ls (XL b :: XL a :: st) M Post := by
  refine go_br (P := a < b) (p1 := tgt) (p2 := pc + 4) (st' := st) (fun hx hb o q1 q2 => W.lcmp hx hb hd ?_) (fun h => ok_t (ok_t h)) (fun z => k1 z) (fun z => k2 (by omega))
  have ha := ok_hL (ok_t o)
  have hc := ok_hL o
  rcases lg_cases ha hc with ⟨h, e⟩ | ⟨h, e⟩ | ⟨h, e⟩ <;> rw [e] <;> refine lv_if_lt hx hb hd2 ht (fun z => ?_) (fun z => ?_) <;> first | (exact q1 (by omega)) | (exact q2 (by omega)) | (exact absurd z (by decide))
theorem g_lcmp_ge {a b off : Int} {tgt : Nat} (hd : decode Y.2.1 pc = .ok (.lcmp, 1)) (hd2 : decode Y.2.1 (pc + 1) = .ok (.ifCond .ge off, 3)) (ht : ((pc + 1 : Nat) : Int) + off = (tgt : Int)) (k1 : b ≤ a → Go X Y d tgt ls st M Post) (k2 : ¬ b ≤ a → Go X Y d (pc + 4) ls st M Post) : Go X Y d pc ls (XL b :: XL a :: st) M Post := by
  refine go_br (P := b ≤ a) (p1 := tgt) (p2 := pc + 4) (st' := st) (fun hx hb o q1 q2 => W.lcmp hx hb hd ?_) (fun h => ok_t (ok_t h)) (fun z => k1 z) (fun z => k2 (by omega))
  have ha := ok_hL (ok_t o)
  have hc := ok_hL o
  rcases lg_cases ha hc with ⟨h, e⟩ | ⟨h, e⟩ | ⟨h, e⟩ <;> rw [e] <;> refine lv_if_ge hx hb hd2 ht (fun z => ?_) (fun z => ?_) <;> first | (exact q1 (by omega)) | (exact q2 (by omega)) | (exact absurd z (by decide))
theorem g_lcmp_gt {a b off : Int} {tgt : Nat} (hd : decode Y.2.1 pc = .ok (.lcmp, 1)) (hd2 : decode Y.2.1 (pc + 1) = .ok (.ifCond .gt off, 3)) (ht : ((pc + 1 : Nat) : Int) + off = (tgt : Int)) (k1 : b < a → Go X Y d tgt ls st M Post) (k2 : ¬ b < a → Go X Y d (pc + 4) ls st M Post) : Go X Y d pc ls (XL b :: XL a :: st) M Post := by
  refine go_br (P := b < a) (p1 := tgt) (p2 := pc + 4) (st' := st) (fun hx hb o q1 q2 => W.lcmp hx hb hd ?_) (fun h => ok_t (ok_t h)) (fun z => k1 z) (fun z => k2 (by omega))
  have ha := ok_hL (ok_t o)
  have hc := ok_hL o
  rcases lg_cases ha hc with ⟨h, e⟩ | ⟨h, e⟩ | ⟨h, e⟩ <;> rw [e] <;> refine lv_if_gt hx hb hd2 ht (fun z => ?_) (fun z => ?_) <;> first | (exact q1 (by omega)) | (exact q2 (by omega)) | (exact absurd z (by decide))
theorem g_lcmp_le {a b off : Int} {tgt : Nat} (hd : decode Y.2.1 pc = .ok (.lcmp, 1)) (hd2 : decode Y.2.1 (pc + 1) = .ok (.ifCond .le off, 3)) (ht : ((pc + 1 : Nat) : Int) + off = (tgt : Int)) (k1 : a ≤ b → Go X Y d tgt ls st M Post) (k2 : ¬ a ≤ b → Go X Y d (pc + 4) ls st M Post) : Go X Y d pc ls (XL b :: XL a :: st) M Post := by
  refine go_br (P := a ≤ b) (p1 := tgt) (p2 := pc + 4) (st' := st) (fun hx hb o q1 q2 => W.lcmp hx hb hd ?_) (fun h => ok_t (ok_t h)) (fun z => k1 z) (fun z => k2 (by omega))
  have ha := ok_hL (ok_t o)
  have hc := ok_hL o
  rcases lg_cases ha hc with ⟨h, e⟩ | ⟨h, e⟩ | ⟨h, e⟩ <;> rw [e] <;> refine lv_if_le hx hb hd2 ht (fun z => ?_) (fun z => ?_) <;> first | (exact q1 (by omega)) | (exact q2 (by omega)) | (exact absurd z (by decide))
theorem g_ifnullR {a : Nat} {off : Int} (hd : decode Y.2.1 pc = .ok (.ifnull off, 3)) (k : Go X Y d (pc + 3) ls st M Post) : Go X Y d pc ls (XR a :: st) M Post :=
  go_stp (fun hx hb _ _ _ _ _ q => lv_ifnull hx hb hd q) (fun _ h => ok_t h) k
theorem g_ifnullN {off : Int} {tgt : Nat} (hd : decode Y.2.1 pc = .ok (.ifnull off, 3)) (ht : (pc : Int) + off = (tgt : Int)) (k : Go X Y d tgt ls st M Post) : Go X Y d pc ls (XN :: st) M Post :=
  go_stp (fun hx hb _ _ _ _ _ q => lv_ifnullN hx hb hd ht q) (fun _ h => ok_t h) k
theorem g_ifnonnullR {a : Nat} {off : Int} {tgt : Nat} (hd : decode Y.2.1 pc = .ok (.ifnonnull off, 3)) (ht : (pc : Int) + off = (tgt : Int)) (k : Go X Y d tgt ls st M Post) : Go X Y d pc ls (XR a :: st) M Post :=
  go_stp (fun hx hb _ _ _ _ _ q => lv_ifnonnull hx hb hd ht q) (fun _ h => ok_t h) k
theorem g_ifnonnullN {off : Int} (hd : decode Y.2.1 pc = .ok (.ifnonnull off, 3)) (k : Go X Y d (pc + 3) ls st M Post) : Go X Y d pc ls (XN :: st) M Post :=
  go_stp (fun hx hb _ _ _ _ _ q => lv_ifnonnullN hx hb hd q) (fun _ h => ok_t h) k
theorem g_tswIn {a dflt lo hi off : Int} {offs : Array Int} {len tgt : Nat} (hd : decode Y.2.1 pc = .ok (.tableswitch dflt lo hi offs, len)) (h1 : lo ≤ a) (h2 : a ≤ hi) (ho : offs[(a - lo).toNat]? = some off) (ht : (pc : Int) + off = (tgt : Int)) (k : Go X Y d tgt ls st M Post) : Go X Y d pc ls (XI a :: st) M Post :=
  go_stp (fun hx hb _ _ _ _ o q => lv_tableIn hx hb hd (x := Int32.ofInt a) (by rw [i32_eq (ok_hI o)]; omega) (by rw [i32_eq (ok_hI o)]; omega) (by rw [i32_eq (ok_hI o)]; exact ho) ht q) (fun _ h => ok_t h) k
theorem g_tswOut {a dflt lo hi : Int} {offs : Array Int} {len tgt : Nat} (hd : decode Y.2.1 pc = .ok (.tableswitch dflt lo hi offs, len)) (h : a < lo ∨ hi < a) (ht : (pc : Int) + dflt = (tgt : Int)) (k : Go X Y d tgt ls st M Post) : Go X Y d pc ls (XI a :: st) M Post :=
  go_stp (fun hx hb _ _ _ _ o q => lv_tableOut hx hb hd (x := Int32.ofInt a) (by rw [i32_eq (ok_hI o)]; exact h) ht q) (fun _ h => ok_t h) k
theorem g_lsw {a dflt off : Int} {ps : Array (Int × Int)} {len tgt : Nat} (hd : decode Y.2.1 pc = .ok (.lookupswitch dflt ps, len)) (hp : (ps.toList.zip (ps.toList.drop 1)).all (fun (a, next) => a.1 < next.1) = true) (ho : Op.lookupswitch.offset ps.toList dflt a = off) (ht : (pc : Int) + off = (tgt : Int)) (k : Go X Y d tgt ls st M Post) : Go X Y d pc ls (XI a :: st) M Post :=
  go_stp (fun hx hb _ _ _ _ o q => lv_lookup hx hb hd (x := Int32.ofInt a) hp (by rw [i32_eq (ok_hI o)]; exact ho) ht q) (fun _ h => ok_t h) k
-- returns
theorem go_ret {r : Option XV} (h : XRet Y pc r) (hp : Post r M) : Go X Y d pc ls r.toList M Post := by
  intro o1 o2 o3 p e R s m args below meth c cells slots Q H locs lsA C F hl K
  exact K r M H locs pc lsA hp h (fun v hv => o2 v (by cases hv; exact List.mem_singleton.mpr rfl)) o3 F
theorem g_ireturn {v : Int} (hd : decode Y.2.1 pc = .ok (.ireturn, 1)) (hr : Y.2.2.2 = some .int) (hp : Post (some (XI v)) M) : Go X Y d pc ls [XI v] M Post := go_ret (r := some (XI v)) ⟨hd, Or.inl hr⟩ hp
theorem g_zreturn {v : Int} (hd : decode Y.2.1 pc = .ok (.ireturn, 1)) (hr : Y.2.2.2 = some .boolean) (hv : v = 0 ∨ v = 1) (hp : Post (some (XI v)) M) : Go X Y d pc ls [XI v] M Post := go_ret (r := some (XI v)) ⟨hd, Or.inr ⟨hr, hv⟩⟩ hp
theorem g_lreturn {v : Int} (hd : decode Y.2.1 pc = .ok (.lreturn, 1)) (hr : Y.2.2.2 = some .long) (hp : Post (some (XL v)) M) : Go X Y d pc ls [XL v] M Post := go_ret (r := some (XL v)) ⟨hd, hr⟩ hp
theorem g_areturn {a : Nat} {n : String} (hd : decode Y.2.1 pc = .ok (.areturn, 1)) (hr : Y.2.2.2 = some (.object n)) (hp : Post (some (XR a)) M) : Go X Y d pc ls [XR a] M Post := go_ret (r := some (XR a)) ⟨hd, n, hr⟩ hp
theorem g_areturnN {n : String} (hd : decode Y.2.1 pc = .ok (.areturn, 1)) (hr : Y.2.2.2 = some (.object n)) (hp : Post (some XN) M) : Go X Y d pc ls [XN] M Post := go_ret (r := some XN) ⟨hd, n, hr⟩ hp
theorem g_return (hd : decode Y.2.1 pc = .ok (.return_, 1)) (hr : Y.2.2.2 = none) (hp : Post none M) : Go X Y d pc ls [] M Post := go_ret (r := none) ⟨hd, hr⟩ hp
theorem Go.mono {P2 : Option XV → Mem → Prop} (k : Go X Y d pc ls st M Post) (h : ∀ r M', Post r M' → P2 r M') : Go X Y d pc ls st M P2 := by
  intro o1 o2 o3 p e R s m args below meth c cells slots Q H locs lsA C F hl K
  exact k o1 o2 o3 p e R s m args below meth c cells slots Q H locs lsA C F hl (fun r M' H' locs' pc' lsA' hp => K r M' H' locs' pc' lsA' (h r M' hp))
/-- what is known of the values, and of the memory -/
theorem Go.ok (h : (∀ q ∈ ls, xok q.2) → (∀ v ∈ st, xok v) → MR M → Go X Y d pc ls st M Post) : Go X Y d pc ls st M Post := fun o1 o2 o3 => h o1 o2 o3 o1 o2 o3
-- fields
def FL (own : String) (idx ci k : Nat) : Prop := ∃ (C : String) (T : u_T) (N : Nat) (ty0 : Nat → FieldType), vwCl[ci]? = some (C, T, N) ∧ k < N ∧ (∀ w ∈ u_ws C T N, w ∈ xtbl) ∧ (∀ k, k < N → parseFieldDescriptor (T k).2.2.1 = some (ty0 k)) ∧ (∀ a, a < N → ∀ b, b < N → a ≠ b → (T a).2.1 ≠ (T b).2.1) ∧
  (Cond.fieldLink own idx C (T k).2.1 (T k).2.2.1 ∈ xtbl ∨ ∃ host, Cond.fieldLinkNest own idx C (T k).2.1 (T k).2.2.1 host ∈ xtbl) ∧ (T k).1 = C ∧
  (((FK ci k).1 = 0 ∧ (T k).2.2.1 = "I" ∧ (T k).2.2.2 = false) ∨ ((FK ci k).1 = 1 ∧ (T k).2.2.1 = "J" ∧ (T k).2.2.2 = false) ∨ ((FK ci k).1 = 2 ∧ (T k).2.2.1 = "Z" ∧ (T k).2.2.2 = false) ∨ (FK ci k).1 = 3)
theorem fs_at (X : XC) (M : Mem) (o ci : Nat) {k N : Nat} (h : k < N) : ((List.range N).map (xfv X.ad M o ci))[k]? = some (xfv X.ad M o ci k) := by
  rw [List.getElem?_map, List.getElem?_range h]; rfl
theorem go_get {ci k N idx o : Nat} {v : XV} (hd : decode Y.2.1 pc = .ok (.getfield idx, 3)) (hf : FL Y.1.cls idx ci k) (ho : Sh o = (10 + ci, N)) (hk : k < N) (hv : xfv X.ad M o ci k = xc X.ad v) (hok : MR M → xok v) (kk : Go X Y d (pc + 3) ls (v :: st) M Post) : Go X Y d pc ls (XR o :: st) M Post := by
  intro o1 o2 o3 p e R s m args below meth c cells slots Q H locs lsA C F hl K
  obtain ⟨Cn, T, N', ty0, hc, hkN, hin, hty, hnm, hlk, hdc, -⟩ := hf
  have hmem : o ∈ xcells := Sh_mem ho (by omega)
  obtain ⟨q, hq⟩ := xat hmem
  have hat := ws_at X M hq
  rw [xcontO X M ho] at hat
  have k2 := kk o1 (ok_c (hok o3) (ok_t o2)) o3 p e R s m args below meth c cells slots Q H locs lsA C F hl K
  obtain ⟨hx, hb, hml, hown, hts, hK, hI, hSt, hfr, hlo, hce, hsl⟩ := C
  have hfs : ((List.range N).map (xfv X.ad M o ci))[k]? = some (xc X.ad v) := (fs_at X M o ci hk).trans (congrArg some hv)
  rcases hlk with hlk | ⟨host, hlk⟩
  · exact va_get hx hb hts hin hown hK F.1 q hat hc k hkN (hts _ hlk) (fun x h => by rw [hdc] at h; exact h) hfs hd k2
  · exact va_getN hx hb hts hin hown hK F.1 q hat hc k hkN (hts _ hlk) (fun x h => by rw [hdc] at h; exact h) hfs hd k2
theorem xkO {o ci N k : Nat} (ho : Sh o = (10 + ci, N)) : xkind o k = (FK ci k).1 := by
  have e : 10 + ci - 10 = ci := by omega
  have h1 : 10 + ci ≠ 1 := by omega
  have h2 : 10 + ci ≠ 2 := by omega
  have h3 : 10 + ci ≠ 3 := by omega
  have h4 : 10 + ci ≠ 4 := by omega
  have h5 : 10 + ci ≠ 5 := by omega
  have h6 : 10 + ci ≠ 6 := by omega
  unfold xkind
  rw [ho]
  dsimp only
  split <;> first | contradiction | (rw [if_pos (by omega), e])
theorem g_getI {ci k N idx o : Nat} (hd : decode Y.2.1 pc = .ok (.getfield idx, 3)) (hf : FL Y.1.cls idx ci k) (hk : k < N) (hF : FK ci k = (0, 0)) (ho : Sh o = (10 + ci, N)) (kk : Go X Y d (pc + 3) ls (XI (M o k) :: st) M Post) : Go X Y d pc ls (XR o :: st) M Post :=
  go_get hd hf ho hk (by rw [xfv, hF]; rfl) (fun h => by have := h o k; rw [xkO ho, hF] at this; exact this) kk
theorem g_getZ {ci k N idx o : Nat} (hd : decode Y.2.1 pc = .ok (.getfield idx, 3)) (hf : FL Y.1.cls idx ci k) (hk : k < N) (hF : FK ci k = (2, 0)) (ho : Sh o = (10 + ci, N)) (kk : Go X Y d (pc + 3) ls (XI (M o k) :: st) M Post) : Go X Y d pc ls (XR o :: st) M Post :=
  go_get hd hf ho hk (by rw [xfv, hF]; rfl) (fun h => by have := h o k; rw [xkO ho, hF] at this; rcases this with e | e <;> (show i32 _; rw [e]; constructor <;> decide)) kk
theorem g_getJ {ci k N idx o : Nat} (hd : decode Y.2.1 pc = .ok (.getfield idx, 3)) (hf : FL Y.1.cls idx ci k) (hk : k < N) (hF : FK ci k = (1, 0)) (ho : Sh o = (10 + ci, N)) (kk : Go X Y d (pc + 3) ls (XL (M o k) :: st) M Post) : Go X Y d pc ls (XR o :: st) M Post :=
  go_get hd hf ho hk (by rw [xfv, hF]; rfl) (fun h => by have := h o k; rw [xkO ho, hF] at this; exact this) kk
theorem g_getR {ci k N idx o δ : Nat} (hd : decode Y.2.1 pc = .ok (.getfield idx, 3)) (hf : FL Y.1.cls idx ci k) (hk : k < N) (hF : FK ci k = (3, δ)) (ho : Sh o = (10 + ci, N)) (kk : Go X Y d (pc + 3) ls (XR (o + δ) :: st) M Post) : Go X Y d pc ls (XR o :: st) M Post :=
  go_get (v := XR (o + δ)) hd hf ho hk (by rw [xfv, hF]; rfl) (fun _ => True.intro) kk
theorem wr_ne {a j b : Nat} {v : Int} (h : b ≠ a) : wr M a j v b = M b := by
  funext k; unfold wr; rw [if_neg (fun z => h z.1)]
theorem wr_at {a j k : Nat} {v : Int} : wr M a j v a k = if k = j then v else M a k := by
  unfold wr
  by_cases h : k = j
  · rw [if_pos ⟨rfl, h⟩, if_pos h]
  · rw [if_neg (fun z => h z.2), if_neg h]
theorem MR_wr {a j : Nat} {v : Int} (h : MR M) (hv : xrg (xkind a j) v) : MR (wr M a j v) := by
  intro b k
  unfold wr
  by_cases e : b = a ∧ k = j
  · rw [if_pos e, e.1, e.2]; exact hv
  · rw [if_neg e]; exact h b k
theorem fs_set (X : XC) {o ci k N : Nat} {v : Int} {w : Value} (hk : k < N) (hw : xfv X.ad (wr M o k v) o ci k = w) : ((List.range N).map (xfv X.ad M o ci)).set k w = (List.range N).map (xfv X.ad (wr M o k v) o ci) := by
  apply List.ext_getElem?
  intro j
  by_cases hj : j = k
  · subst hj
    rw [List.getElem?_set_self (by rw [List.length_map, List.length_range]; exact hk), fs_at X _ o ci hk, hw]
  · rw [List.getElem?_set_ne (Ne.symm hj)]
    by_cases hjN : j < N
    · rw [fs_at X _ o ci hjN, fs_at X _ o ci hjN]
      simp only [xfv, wr_at, if_neg hj]
    · rw [List.getElem?_eq_none (by rw [List.length_map, List.length_range]; omega), List.getElem?_eq_none (by rw [List.length_map, List.length_range]; omega)]
end
