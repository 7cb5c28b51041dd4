section
theorem kX8_after {X : XC} {d : Nat} {x0 : Nat} (hx0 : Sh x0 = (17, 10)) {M : Mem} {q : Int × Mem} (h : fX8_after x0 M = some q) : Ct X mX8_after (d + 6) [XR x0] M (pI q) := by
  sorry
theorem kX8_amount {X : XC} {d : Nat} {x0 : Nat} {x1 : Int} {x2 : Int} (hx0 : Sh x0 = (17, 10)) {M : Mem} {q : Int × Mem} (h : fX8_amount x0 x1 x2 M = some q) : Ct X mX8_amount (d + 6) [XR x0, XI x1, XI x2] M (pJ q) := by
  sorry
theorem kX8_ballot {X : XC} {d : Nat} {x0 : Nat} {x1 : Int} {x2 : Int} (hx0 : Sh x0 = (17, 10)) {M : Mem} {q : Int × Mem} (h : fX8_ballot x0 x1 x2 M = some q) : Ct X mX8_ballot (d + 3) [XR x0, XI x1, XI x2] M (pI q) := by
  sorry
theorem kX8_ballotOf {X : XC} {d : Nat} {x0 : Nat} {x1 : Int} {x2 : Int} (hx0 : Sh x0 = (17, 10)) {M : Mem} {q : Int × Mem} (h : fX8_ballotOf x0 x1 x2 M = some q) : Ct X mX8_ballotOf (d + 3) [XR x0, XI x1, XI x2] M (pI q) := by
  sorry
theorem kX8_best {X : XC} {d : Nat} {x0 : Nat} (hx0 : Sh x0 = (17, 10)) {M : Mem} {q : Int × Mem} (h : fX8_best x0 M = some q) : Ct X mX8_best (d + 4) [XR x0] M (pI q) := by
  sorry
theorem kX8_candidate {X : XC} {d : Nat} {x0 : Nat} (hx0 : Sh x0 = (17, 10)) {M : Mem} {q : Int × Mem} (h : fX8_candidate x0 M = some q) : Ct X mX8_candidate d [XR x0] M (pI q) := by
  sorry
theorem kX8_cause {X : XC} {d : Nat} {x0 : Nat} {x1 : Int} {x2 : Int} (hx0 : Sh x0 = (17, 10)) {M : Mem} {q : Int × Mem} (h : fX8_cause x0 x1 x2 M = some q) : Ct X mX8_cause d [XR x0, XI x1, XI x2] M (pI q) := by
  sorry
theorem kX8_count {X : XC} {d : Nat} {x0 : Nat} {x1 : Int} (hx0 : Sh x0 = (17, 10)) {M : Mem} {q : Int × Mem} (h : fX8_count x0 x1 M = some q) : Ct X mX8_count d [XR x0, XI x1] M (pI q) := by
  sorry
theorem kX8_drop {X : XC} {d : Nat} {x0 : Nat} (hx0 : Sh x0 = (17, 10)) {M : Mem} {q : Int × Mem} (h : fX8_drop x0 M = some q) : Ct X mX8_drop d [XR x0] M (pI q) := by
  sorry
theorem kX8_elected {X : XC} {d : Nat} {x0 : Nat} {x1 : Int} (hx0 : Sh x0 = (17, 10)) {M : Mem} {q : Int × Mem} (h : fX8_elected x0 x1 M = some q) : Ct X mX8_elected (d + 6) [XR x0, XI x1] M (pI q) := by
  sorry
theorem kX8_event {X : XC} {d : Nat} {x0 : Nat} {x1 : Int} {x2 : Int} (hx0 : Sh x0 = (17, 10)) {M : Mem} {q : Int × Mem} (h : fX8_event x0 x1 x2 M = some q) : Ct X mX8_event (d + 1) [XR x0, XI x1, XI x2] M (pI q) := by
  sorry
theorem kX8_feed {X : XC} {d : Nat} {x0 : Nat} {x1 : Int} (hx0 : Sh x0 = (17, 10)) {M : Mem} {q : Int × Mem} (h : fX8_feed x0 x1 M = some q) : Ct X mX8_feed d [XR x0, XI x1] M (pI q) := by
  sorry
theorem kX8_fits {X : XC} {d : Nat} {x0 : Nat} {x1 : Int} (hx0 : Sh x0 = (17, 10)) {M : Mem} {q : Int × Mem} (h : fX8_fits x0 x1 M = some q) : Ct X mX8_fits (d + 6) [XR x0, XI x1] M (pI q) := by
  sorry
theorem kX8_gone {X : XC} {d : Nat} {x0 : Nat} {x1 : Int} {x2 : Int} (hx0 : Sh x0 = (17, 10)) {M : Mem} {q : Int × Mem} (h : fX8_gone x0 x1 x2 M = some q) : Ct X mX8_gone (d + 1) [XR x0, XI x1, XI x2] M (pI q) := by
  sorry
theorem kX8_image {X : XC} {d : Nat} {x0 : Nat} (hx0 : Sh x0 = (17, 10)) {M : Mem} {q : Int × Mem} (h : fX8_image x0 M = some q) : Ct X mX8_image (d + 1) [XR x0] M (pI q) := by
  sorry
theorem kX8_item {X : XC} {d : Nat} {x0 : Nat} {x1 : Int} {x2 : Int} {x3 : Int} (hx0 : Sh x0 = (17, 10)) {M : Mem} {q : Int × Mem} (h : fX8_item x0 x1 x2 x3 M = some q) : Ct X mX8_item (d + 1) [XR x0, XI x1, XI x2, XL x3] M (pI q) := by
  sorry
theorem kX8_judge {X : XC} {d : Nat} {x0 : Nat} {x1 : Int} {x2 : Int} {x3 : Int} (hx0 : Sh x0 = (17, 10)) {M : Mem} {q : Int × Mem} (h : fX8_judge x0 x1 x2 x3 M = some q) : Ct X mX8_judge (d + 6) [XR x0, XI x1, XI x2, XI x3] M (pI q) := by
  sorry
theorem kX8_many {X : XC} {d : Nat} {x0 : Nat} {x1 : Int} {x2 : Int} (hx0 : Sh x0 = (17, 10)) {M : Mem} {q : Int × Mem} (h : fX8_many x0 x1 x2 M = some q) : Ct X mX8_many (d + 3) [XR x0, XI x1, XI x2] M (pI q) := by
  sorry
theorem kX8_needs {X : XC} {d : Nat} {x0 : Nat} {x1 : Int} {x2 : Int} (hx0 : Sh x0 = (17, 10)) {M : Mem} {q : Int × Mem} (h : fX8_needs x0 x1 x2 M = some q) : Ct X mX8_needs (d + 6) [XR x0, XI x1, XI x2] M (pI q) := by
  sorry
theorem kX8_of {X : XC} {d : Nat} {x0 : Nat} {x1 : Int} {x2 : Int} (hx0 : Sh x0 = (17, 10)) {M : Mem} {q : Int × Mem} (h : fX8_of x0 x1 x2 M = some q) : Ct X mX8_of (d + 6) [XR x0, XI x1, XI x2] M (pI q) := by
  sorry
theorem kX8_peek {X : XC} {d : Nat} {x0 : Nat} {x1 : Int} {x2 : Int} (hx0 : Sh x0 = (17, 10)) {M : Mem} {q : Int × Mem} (h : fX8_peek x0 x1 x2 M = some q) : Ct X mX8_peek (d + 1) [XR x0, XI x1, XI x2] M (pJ q) := by
  sorry
theorem kX8_pile {X : XC} {d : Nat} {x0 : Nat} {x1 : Int} {x2 : Int} (hx0 : Sh x0 = (17, 10)) {M : Mem} {q : Int × Mem} (h : fX8_pile x0 x1 x2 M = some q) : Ct X mX8_pile (d + 6) [XR x0, XI x1, XI x2] M (pI q) := by
  sorry
theorem kX8_preferred {X : XC} {d : Nat} {x0 : Nat} {x1 : Int} {x2 : Int} (hx0 : Sh x0 = (17, 10)) {M : Mem} {q : Int × Mem} (h : fX8_preferred x0 x1 x2 M = some q) : Ct X mX8_preferred (d + 3) [XR x0, XI x1, XI x2] M (pI q) := by
  sorry
theorem kX8_raised {X : XC} {d : Nat} {x0 : Nat} {x1 : Int} {x2 : Int} (hx0 : Sh x0 = (17, 10)) {M : Mem} {q : Int × Mem} (h : fX8_raised x0 x1 x2 M = some q) : Ct X mX8_raised (d + 6) [XR x0, XI x1, XI x2] M (pI q) := by
  sorry
theorem kX8_ranked {X : XC} {d : Nat} {x0 : Nat} {x1 : Int} (hx0 : Sh x0 = (17, 10)) {M : Mem} {q : Int × Mem} (h : fX8_ranked x0 x1 M = some q) : Ct X mX8_ranked (d + 6) [XR x0, XI x1] M (pI q) := by
  sorry
theorem kX8_read {X : XC} {d : Nat} {x0 : Nat} (hx0 : Sh x0 = (17, 10)) {M : Mem} {q : Int × Mem} (h : fX8_read x0 M = some q) : Ct X mX8_read (d + 5) [XR x0] M (pI q) := by
  sorry
theorem kX8_rowOf {X : XC} {d : Nat} {x0 : Nat} {x1 : Int} {x2 : Int} (hx0 : Sh x0 = (17, 10)) {M : Mem} {q : Int × Mem} (h : fX8_rowOf x0 x1 x2 M = some q) : Ct X mX8_rowOf (d + 2) [XR x0, XI x1, XI x2] M (pI q) := by
  sorry
theorem kX8_see {X : XC} {d : Nat} {x0 : Nat} {x1 : Int} {x2 : Int} (hx0 : Sh x0 = (17, 10)) {M : Mem} {q : Int × Mem} (h : fX8_see x0 x1 x2 M = some q) : Ct X mX8_see (d + 1) [XR x0, XI x1, XI x2] M (pI q) := by
  sorry
theorem kX8_set {X : XC} {d : Nat} {x0 : Nat} {x1 : Int} {x2 : Int} (hx0 : Sh x0 = (17, 10)) {M : Mem} {q : Int × Mem} (h : fX8_set x0 x1 x2 M = some q) : Ct X mX8_set (d + 1) [XR x0, XI x1, XI x2] M (pI q) := by
  sorry
theorem kX8_share {X : XC} {d : Nat} {x0 : Nat} {x1 : Int} {x2 : Int} {x3 : Int} (hx0 : Sh x0 = (17, 10)) {M : Mem} {q : Int × Mem} (h : fX8_share x0 x1 x2 x3 M = some q) : Ct X mX8_share (d + 6) [XR x0, XI x1, XI x2, XI x3] M (pJ q) := by
  sorry
theorem kX8_shift {X : XC} {d : Nat} {x0 : Nat} {x1 : Int} {x2 : Int} {x3 : Int} {x4 : Int} {x5 : Int} (hx0 : Sh x0 = (17, 10)) {M : Mem} {q : Int × Mem} (h : fX8_shift x0 x1 x2 x3 x4 x5 M = some q) : Ct X mX8_shift (d + 1) [XR x0, XI x1, XI x2, XI x3, XI x4, XI x5] M (pI q) := by
  sorry
theorem kX8_stageOf {X : XC} {d : Nat} {x0 : Nat} {x1 : Int} {x2 : Int} (hx0 : Sh x0 = (17, 10)) {M : Mem} {q : Int × Mem} (h : fX8_stageOf x0 x1 x2 M = some q) : Ct X mX8_stageOf (d + 6) [XR x0, XI x1, XI x2] M (pI q) := by
  sorry
theorem kX8_standing {X : XC} {d : Nat} {x0 : Nat} {x1 : Int} {x2 : Int} (hx0 : Sh x0 = (17, 10)) {M : Mem} {q : Int × Mem} (h : fX8_standing x0 x1 x2 M = some q) : Ct X mX8_standing (d + 6) [XR x0, XI x1, XI x2] M (pI q) := by
  sorry
theorem kX8_swap {X : XC} {d : Nat} {x0 : Nat} {x1 : Int} {x2 : Int} (hx0 : Sh x0 = (17, 10)) {M : Mem} {q : Int × Mem} (h : fX8_swap x0 x1 x2 M = some q) : Ct X mX8_swap (d + 1) [XR x0, XI x1, XI x2] M (pI q) := by
  sorry
theorem kX8_tape {X : XC} {d : Nat} {x0 : Nat} {x1 : Int} {x2 : Int} {x3 : Int} (hx0 : Sh x0 = (17, 10)) {M : Mem} {q : Int × Mem} (h : fX8_tape x0 x1 x2 x3 M = some q) : Ct X mX8_tape (d + 2) [XR x0, XI x1, XI x2, XI x3] M (pI q) := by
  sorry
theorem kX8_told {X : XC} {d : Nat} {x0 : Nat} {x1 : Int} (hx0 : Sh x0 = (17, 10)) {M : Mem} {q : Int × Mem} (h : fX8_told x0 x1 M = some q) : Ct X mX8_told (d + 6) [XR x0, XI x1] M (pI q) := by
  sorry
theorem kX8_undo {X : XC} {d : Nat} {x0 : Nat} (hx0 : Sh x0 = (17, 10)) {M : Mem} {q : Int × Mem} (h : fX8_undo x0 M = some q) : Ct X mX8_undo (d + 1) [XR x0] M (pI q) := by
  sorry
theorem kX8_votes {X : XC} {d : Nat} {x0 : Nat} {x1 : Int} {x2 : Int} {x3 : Int} (hx0 : Sh x0 = (17, 10)) {M : Mem} {q : Int × Mem} (h : fX8_votes x0 x1 x2 x3 M = some q) : Ct X mX8_votes (d + 6) [XR x0, XI x1, XI x2, XI x3] M (pJ q) := by
  sorry
theorem kX8_without {X : XC} {d : Nat} {x0 : Nat} {x1 : Int} (hx0 : Sh x0 = (17, 10)) {M : Mem} {q : Int × Mem} (h : fX8_without x0 x1 M = some q) : Ct X mX8_without (d + 6) [XR x0, XI x1] M (pI q) := by
  sorry
theorem kX9_after {X : XC} {d : Nat} {x0 : Nat} (hx0 : Sh x0 = (18, 69)) {M : Mem} {q : Int × Mem} (h : fX9_after x0 M = some q) : Ct X mX9_after (d + 7) [XR x0] M (pI q) := by
  sorry
theorem kX9_amount {X : XC} {d : Nat} {x0 : Nat} {x1 : Int} {x2 : Int} (hx0 : Sh x0 = (18, 69)) {M : Mem} {q : Int × Mem} (h : fX9_amount x0 x1 x2 M = some q) : Ct X mX9_amount (d + 7) [XR x0, XI x1, XI x2] M (pJ q) := by
  sorry
theorem kX9_ballot {X : XC} {d : Nat} {x0 : Nat} {x1 : Int} {x2 : Int} (hx0 : Sh x0 = (18, 69)) {M : Mem} {q : Int × Mem} (h : fX9_ballot x0 x1 x2 M = some q) : Ct X mX9_ballot (d + 2) [XR x0, XI x1, XI x2] M (pI q) := by
  sorry
theorem kX9_ballotOf {X : XC} {d : Nat} {x0 : Nat} {x1 : Int} {x2 : Int} (hx0 : Sh x0 = (18, 69)) {M : Mem} {q : Int × Mem} (h : fX9_ballotOf x0 x1 x2 M = some q) : Ct X mX9_ballotOf (d + 3) [XR x0, XI x1, XI x2] M (pI q) := by
  sorry
theorem kX9_best {X : XC} {d : Nat} {x0 : Nat} (hx0 : Sh x0 = (18, 69)) {M : Mem} {q : Int × Mem} (h : fX9_best x0 M = some q) : Ct X mX9_best (d + 4) [XR x0] M (pI q) := by
  sorry
theorem kX9_candidate {X : XC} {d : Nat} {x0 : Nat} (hx0 : Sh x0 = (18, 69)) {M : Mem} {q : Int × Mem} (h : fX9_candidate x0 M = some q) : Ct X mX9_candidate d [XR x0] M (pI q) := by
  sorry
theorem kX9_cause {X : XC} {d : Nat} {x0 : Nat} {x1 : Int} {x2 : Int} (hx0 : Sh x0 = (18, 69)) {M : Mem} {q : Int × Mem} (h : fX9_cause x0 x1 x2 M = some q) : Ct X mX9_cause (d + 1) [XR x0, XI x1, XI x2] M (pI q) := by
  sorry
theorem kX9_count {X : XC} {d : Nat} {x0 : Nat} {x1 : Int} (hx0 : Sh x0 = (18, 69)) {M : Mem} {q : Int × Mem} (h : fX9_count x0 x1 M = some q) : Ct X mX9_count d [XR x0, XI x1] M (pI q) := by
  sorry
theorem kX9_drop {X : XC} {d : Nat} {x0 : Nat} (hx0 : Sh x0 = (18, 69)) {M : Mem} {q : Int × Mem} (h : fX9_drop x0 M = some q) : Ct X mX9_drop d [XR x0] M (pI q) := by
  sorry
theorem kX9_elected {X : XC} {d : Nat} {x0 : Nat} {x1 : Int} (hx0 : Sh x0 = (18, 69)) {M : Mem} {q : Int × Mem} (h : fX9_elected x0 x1 M = some q) : Ct X mX9_elected (d + 6) [XR x0, XI x1] M (pI q) := by
  sorry
theorem kX9_event {X : XC} {d : Nat} {x0 : Nat} {x1 : Int} {x2 : Int} (hx0 : Sh x0 = (18, 69)) {M : Mem} {q : Int × Mem} (h : fX9_event x0 x1 x2 M = some q) : Ct X mX9_event (d + 2) [XR x0, XI x1, XI x2] M (pI q) := by
  sorry
theorem kX9_feed {X : XC} {d : Nat} {x0 : Nat} {x1 : Int} (hx0 : Sh x0 = (18, 69)) {M : Mem} {q : Int × Mem} (h : fX9_feed x0 x1 M = some q) : Ct X mX9_feed (d + 1) [XR x0, XI x1] M (pI q) := by
  sorry
theorem kX9_fits {X : XC} {d : Nat} {x0 : Nat} {x1 : Int} (hx0 : Sh x0 = (18, 69)) {M : Mem} {q : Int × Mem} (h : fX9_fits x0 x1 M = some q) : Ct X mX9_fits (d + 8) [XR x0, XI x1] M (pI q) := by
  sorry
theorem kX9_gone {X : XC} {d : Nat} {x0 : Nat} {x1 : Int} {x2 : Int} (hx0 : Sh x0 = (18, 69)) {M : Mem} {q : Int × Mem} (h : fX9_gone x0 x1 x2 M = some q) : Ct X mX9_gone (d + 2) [XR x0, XI x1, XI x2] M (pI q) := by
  sorry
theorem kX9_image {X : XC} {d : Nat} {x0 : Nat} (hx0 : Sh x0 = (18, 69)) {M : Mem} {q : Int × Mem} (h : fX9_image x0 M = some q) : Ct X mX9_image (d + 1) [XR x0] M (pI q) := by
  sorry
theorem kX9_item {X : XC} {d : Nat} {x0 : Nat} {x1 : Int} {x2 : Int} {x3 : Int} (hx0 : Sh x0 = (18, 69)) {M : Mem} {q : Int × Mem} (h : fX9_item x0 x1 x2 x3 M = some q) : Ct X mX9_item (d + 3) [XR x0, XI x1, XI x2, XL x3] M (pI q) := by
  sorry
theorem kX9_judge {X : XC} {d : Nat} {x0 : Nat} {x1 : Int} {x2 : Int} {x3 : Int} (hx0 : Sh x0 = (18, 69)) {M : Mem} {q : Int × Mem} (h : fX9_judge x0 x1 x2 x3 M = some q) : Ct X mX9_judge (d + 7) [XR x0, XI x1, XI x2, XI x3] M (pI q) := by
  sorry
theorem kX9_many {X : XC} {d : Nat} {x0 : Nat} {x1 : Int} {x2 : Int} (hx0 : Sh x0 = (18, 69)) {M : Mem} {q : Int × Mem} (h : fX9_many x0 x1 x2 M = some q) : Ct X mX9_many (d + 2) [XR x0, XI x1, XI x2] M (pI q) := by
  sorry
theorem kX9_needs {X : XC} {d : Nat} {x0 : Nat} {x1 : Int} {x2 : Int} (hx0 : Sh x0 = (18, 69)) {M : Mem} {q : Int × Mem} (h : fX9_needs x0 x1 x2 M = some q) : Ct X mX9_needs (d + 7) [XR x0, XI x1, XI x2] M (pI q) := by
  sorry
theorem kX9_of {X : XC} {d : Nat} {x0 : Nat} {x1 : Int} {x2 : Int} (hx0 : Sh x0 = (18, 69)) {M : Mem} {q : Int × Mem} (h : fX9_of x0 x1 x2 M = some q) : Ct X mX9_of (d + 6) [XR x0, XI x1, XI x2] M (pI q) := by
  sorry
theorem kX9_peek {X : XC} {d : Nat} {x0 : Nat} {x1 : Int} {x2 : Int} (hx0 : Sh x0 = (18, 69)) {M : Mem} {q : Int × Mem} (h : fX9_peek x0 x1 x2 M = some q) : Ct X mX9_peek (d + 3) [XR x0, XI x1, XI x2] M (pJ q) := by
  sorry
theorem kX9_pile {X : XC} {d : Nat} {x0 : Nat} {x1 : Int} {x2 : Int} (hx0 : Sh x0 = (18, 69)) {M : Mem} {q : Int × Mem} (h : fX9_pile x0 x1 x2 M = some q) : Ct X mX9_pile (d + 4) [XR x0, XI x1, XI x2] M (pI q) := by
  sorry
theorem kX9_preferred {X : XC} {d : Nat} {x0 : Nat} {x1 : Int} {x2 : Int} (hx0 : Sh x0 = (18, 69)) {M : Mem} {q : Int × Mem} (h : fX9_preferred x0 x1 x2 M = some q) : Ct X mX9_preferred (d + 3) [XR x0, XI x1, XI x2] M (pI q) := by
  sorry
theorem kX9_raised {X : XC} {d : Nat} {x0 : Nat} {x1 : Int} {x2 : Int} (hx0 : Sh x0 = (18, 69)) {M : Mem} {q : Int × Mem} (h : fX9_raised x0 x1 x2 M = some q) : Ct X mX9_raised (d + 7) [XR x0, XI x1, XI x2] M (pI q) := by
  sorry
theorem kX9_ranked {X : XC} {d : Nat} {x0 : Nat} {x1 : Int} (hx0 : Sh x0 = (18, 69)) {M : Mem} {q : Int × Mem} (h : fX9_ranked x0 x1 M = some q) : Ct X mX9_ranked (d + 6) [XR x0, XI x1] M (pI q) := by
  sorry
theorem kX9_read {X : XC} {d : Nat} {x0 : Nat} (hx0 : Sh x0 = (18, 69)) {M : Mem} {q : Int × Mem} (h : fX9_read x0 M = some q) : Ct X mX9_read (d + 4) [XR x0] M (pI q) := by
  sorry
theorem kX9_rowOf {X : XC} {d : Nat} {x0 : Nat} {x1 : Int} {x2 : Int} (hx0 : Sh x0 = (18, 69)) {M : Mem} {q : Int × Mem} (h : fX9_rowOf x0 x1 x2 M = some q) : Ct X mX9_rowOf (d + 2) [XR x0, XI x1, XI x2] M (pI q) := by
  sorry
theorem kX9_see {X : XC} {d : Nat} {x0 : Nat} {x1 : Int} {x2 : Int} (hx0 : Sh x0 = (18, 69)) {M : Mem} {q : Int × Mem} (h : fX9_see x0 x1 x2 M = some q) : Ct X mX9_see (d + 2) [XR x0, XI x1, XI x2] M (pI q) := by
  sorry
theorem kX9_set {X : XC} {d : Nat} {x0 : Nat} {x1 : Int} {x2 : Int} (hx0 : Sh x0 = (18, 69)) {M : Mem} {q : Int × Mem} (h : fX9_set x0 x1 x2 M = some q) : Ct X mX9_set (d + 1) [XR x0, XI x1, XI x2] M (pI q) := by
  sorry
theorem kX9_share {X : XC} {d : Nat} {x0 : Nat} {x1 : Int} {x2 : Int} {x3 : Int} (hx0 : Sh x0 = (18, 69)) {M : Mem} {q : Int × Mem} (h : fX9_share x0 x1 x2 x3 M = some q) : Ct X mX9_share (d + 7) [XR x0, XI x1, XI x2, XI x3] M (pJ q) := by
  sorry
theorem kX9_shift {X : XC} {d : Nat} {x0 : Nat} {x1 : Int} {x2 : Int} {x3 : Int} {x4 : Int} {x5 : Int} (hx0 : Sh x0 = (18, 69)) {M : Mem} {q : Int × Mem} (h : fX9_shift x0 x1 x2 x3 x4 x5 M = some q) : Ct X mX9_shift (d + 2) [XR x0, XI x1, XI x2, XI x3, XI x4, XI x5] M (pI q) := by
  sorry
theorem kX9_stageOf {X : XC} {d : Nat} {x0 : Nat} {x1 : Int} {x2 : Int} (hx0 : Sh x0 = (18, 69)) {M : Mem} {q : Int × Mem} (h : fX9_stageOf x0 x1 x2 M = some q) : Ct X mX9_stageOf (d + 7) [XR x0, XI x1, XI x2] M (pI q) := by
  sorry
theorem kX9_standing {X : XC} {d : Nat} {x0 : Nat} {x1 : Int} {x2 : Int} (hx0 : Sh x0 = (18, 69)) {M : Mem} {q : Int × Mem} (h : fX9_standing x0 x1 x2 M = some q) : Ct X mX9_standing (d + 7) [XR x0, XI x1, XI x2] M (pI q) := by
  sorry
theorem kX9_swap {X : XC} {d : Nat} {x0 : Nat} {x1 : Int} {x2 : Int} (hx0 : Sh x0 = (18, 69)) {M : Mem} {q : Int × Mem} (h : fX9_swap x0 x1 x2 M = some q) : Ct X mX9_swap (d + 2) [XR x0, XI x1, XI x2] M (pI q) := by
  sorry
theorem kX9_tape {X : XC} {d : Nat} {x0 : Nat} {x1 : Int} {x2 : Int} {x3 : Int} (hx0 : Sh x0 = (18, 69)) {M : Mem} {q : Int × Mem} (h : fX9_tape x0 x1 x2 x3 M = some q) : Ct X mX9_tape (d + 2) [XR x0, XI x1, XI x2, XI x3] M (pI q) := by
  sorry
theorem kX9_told {X : XC} {d : Nat} {x0 : Nat} {x1 : Int} (hx0 : Sh x0 = (18, 69)) {M : Mem} {q : Int × Mem} (h : fX9_told x0 x1 M = some q) : Ct X mX9_told (d + 7) [XR x0, XI x1] M (pI q) := by
  sorry
theorem kX9_undo {X : XC} {d : Nat} {x0 : Nat} (hx0 : Sh x0 = (18, 69)) {M : Mem} {q : Int × Mem} (h : fX9_undo x0 M = some q) : Ct X mX9_undo (d + 1) [XR x0] M (pI q) := by
  sorry
theorem kX9_votes {X : XC} {d : Nat} {x0 : Nat} {x1 : Int} {x2 : Int} {x3 : Int} (hx0 : Sh x0 = (18, 69)) {M : Mem} {q : Int × Mem} (h : fX9_votes x0 x1 x2 x3 M = some q) : Ct X mX9_votes (d + 7) [XR x0, XI x1, XI x2, XI x3] M (pJ q) := by
  sorry
theorem kX9_without {X : XC} {d : Nat} {x0 : Nat} {x1 : Int} (hx0 : Sh x0 = (18, 69)) {M : Mem} {q : Int × Mem} (h : fX9_without x0 x1 M = some q) : Ct X mX9_without (d + 7) [XR x0, XI x1] M (pI q) := by
  sorry
end
