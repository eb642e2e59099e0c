/-! TRUE FOR WANT OF A START, AND WORTH NOTHING: the owed statement follows from gp_empty alone, without one step of the class or of the law. It is no proof of what p20's words say, and it is not handed in. It stands here to show that the printed statement is empty. -/
theorem i_vc : Claimed_1_1 ∧ Claimed_1_2 := ⟨fun l _ hL _ => absurd hL (gp_empty l), fun l _ hL _ => absurd hL (gp_empty l)⟩
