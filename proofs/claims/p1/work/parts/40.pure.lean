def INV (i : Nat) (G : GR) (R : SR) : Prop := i = 0 → G = G0 ∧ R = R0
theorem cmp_setChannel {i : Nat} {G : GR} {R : SR} (hV : INV i G R) (hi : i + 4 ≤ 4) (v1 v2 v3 : Int32) : (f_X5_setChannel G v1 v2 v3).1 = (f_X6_setChannel R v1 v2 v3).1 := sorry
theorem inv_setChannel {i : Nat} {G : GR} {R : SR} (hV : INV i G R) (hi : i + 4 ≤ 4) (v1 v2 v3 : Int32) (g0 : WFG ((f_X5_setChannel G v1 v2 v3).2)) (g1 : RA ((f_X6_setChannel R v1 v2 v3).2)) (g2 : RS ((f_X6_setChannel R v1 v2 v3).2)) : INV (i + 4) ((f_X5_setChannel G v1 v2 v3).2) ((f_X6_setChannel R v1 v2 v3).2) := sorry
theorem cmp_setGroup {i : Nat} {G : GR} {R : SR} (hV : INV i G R) (hi : i + 4 ≤ 4) (v1 v2 v3 : Int32) : (f_X5_setGroup G v1 v2 v3).1 = (f_X6_setGroup R v1 v2 v3).1 := sorry
theorem inv_setGroup {i : Nat} {G : GR} {R : SR} (hV : INV i G R) (hi : i + 4 ≤ 4) (v1 v2 v3 : Int32) (g0 : WFG ((f_X5_setGroup G v1 v2 v3).2)) (g1 : RA ((f_X6_setGroup R v1 v2 v3).2)) (g2 : RS ((f_X6_setGroup R v1 v2 v3).2)) : INV (i + 4) ((f_X5_setGroup G v1 v2 v3).2) ((f_X6_setGroup R v1 v2 v3).2) := sorry
theorem cmp_setSend {i : Nat} {G : GR} {R : SR} (hV : INV i G R) (hi : i + 4 ≤ 4) (v1 v2 v3 : Int32) : (f_X5_setSend G v1 v2 v3).1 = (f_X6_setSend R v1 v2 v3).1 := sorry
theorem inv_setSend {i : Nat} {G : GR} {R : SR} (hV : INV i G R) (hi : i + 4 ≤ 4) (v1 v2 v3 : Int32) (g0 : WFG ((f_X5_setSend G v1 v2 v3).2)) (g1 : RA ((f_X6_setSend R v1 v2 v3).2)) (g2 : RS ((f_X6_setSend R v1 v2 v3).2)) : INV (i + 4) ((f_X5_setSend G v1 v2 v3).2) ((f_X6_setSend R v1 v2 v3).2) := sorry
theorem cmp_setOwner {i : Nat} {G : GR} {R : SR} (hV : INV i G R) (hi : i + 4 ≤ 4) (v1 v2 v3 : Int32) : (f_X5_setOwner G v1 v2 v3).1 = (f_X6_setOwner R v1 v2 v3).1 := sorry
theorem inv_setOwner {i : Nat} {G : GR} {R : SR} (hV : INV i G R) (hi : i + 4 ≤ 4) (v1 v2 v3 : Int32) (g0 : WFG ((f_X5_setOwner G v1 v2 v3).2)) (g1 : RA ((f_X6_setOwner R v1 v2 v3).2)) (g2 : RS ((f_X6_setOwner R v1 v2 v3).2)) : INV (i + 4) ((f_X5_setOwner G v1 v2 v3).2) ((f_X6_setOwner R v1 v2 v3).2) := sorry
theorem cmp_setReturn {i : Nat} {G : GR} {R : SR} (hV : INV i G R) (hi : i + 4 ≤ 4) (v1 v2 : Int32) : (f_X5_setReturn G v1 v2).1 = (f_X6_setReturn R v1 v2).1 := sorry
theorem inv_setReturn {i : Nat} {G : GR} {R : SR} (hV : INV i G R) (hi : i + 4 ≤ 4) (v1 v2 : Int32) (g0 : WFG ((f_X5_setReturn G v1 v2).2)) (g1 : RA ((f_X6_setReturn R v1 v2).2)) (g2 : RS ((f_X6_setReturn R v1 v2).2)) : INV (i + 4) ((f_X5_setReturn G v1 v2).2) ((f_X6_setReturn R v1 v2).2) := sorry
theorem cmp_store {i : Nat} {G : GR} {R : SR} (hV : INV i G R) (hi : i + 4 ≤ 4) (v1 : Int32) : (f_X5_store G v1).1 = (f_X6_store R v1).1 := sorry
theorem inv_store {i : Nat} {G : GR} {R : SR} (hV : INV i G R) (hi : i + 4 ≤ 4) (v1 : Int32) (g0 : WFG ((f_X5_store G v1).2)) (g1 : RA ((f_X6_store R v1).2)) (g2 : RS ((f_X6_store R v1).2)) : INV (i + 4) ((f_X5_store G v1).2) ((f_X6_store R v1).2) := sorry
theorem cmp_recall {i : Nat} {G : GR} {R : SR} (hV : INV i G R) (hi : i + 4 ≤ 4) (v1 v2 : Int32) : (f_X5_recall G v1 v2).1 = (f_X6_recall R v1 v2).1 := sorry
theorem inv_recall {i : Nat} {G : GR} {R : SR} (hV : INV i G R) (hi : i + 4 ≤ 4) (v1 v2 : Int32) (g0 : WFG ((f_X5_recall G v1 v2).2)) (g1 : RA ((f_X6_recall R v1 v2).2)) (g2 : RS ((f_X6_recall R v1 v2).2)) : INV (i + 4) ((f_X5_recall G v1 v2).2) ((f_X6_recall R v1 v2).2) := sorry
theorem cmp_run {i : Nat} {G : GR} {R : SR} (hV : INV i G R) (hi : i + 4 ≤ 4) (v1 : Int32) : (f_X5_run G v1).1 = (f_X6_run R v1).1 := sorry
theorem inv_run {i : Nat} {G : GR} {R : SR} (hV : INV i G R) (hi : i + 4 ≤ 4) (v1 : Int32) (g0 : WFG ((f_X5_run G v1).2)) (g1 : RA ((f_X6_run R v1).2)) (g2 : RS ((f_X6_run R v1).2)) : INV (i + 4) ((f_X5_run G v1).2) ((f_X6_run R v1).2) := sorry
theorem cmp_reset {i : Nat} {G : GR} {R : SR} (hV : INV i G R) (hi : i + 4 ≤ 4) : (f_X5_reset G).1 = (f_X6_reset R).1 := sorry
theorem inv_reset {i : Nat} {G : GR} {R : SR} (hV : INV i G R) (hi : i + 4 ≤ 4) (g0 : WFG ((f_X5_reset G).2)) (g1 : RA ((f_X6_reset R).2)) (g2 : RS ((f_X6_reset R).2)) : INV (i + 4) ((f_X5_reset G).2) ((f_X6_reset R).2) := sorry
theorem cmp_undo {i : Nat} {G : GR} {R : SR} (hV : INV i G R) (hi : i + 4 ≤ 4) : (f_X5_undo G).1 = (f_X6_undo R).1 := sorry
theorem inv_undo {i : Nat} {G : GR} {R : SR} (hV : INV i G R) (hi : i + 4 ≤ 4) (g0 : WFG ((f_X5_undo G).2)) (g1 : RA ((f_X6_undo R).2)) (g2 : RS ((f_X6_undo R).2)) : INV (i + 4) ((f_X5_undo G).2) ((f_X6_undo R).2) := sorry
theorem cmp_append {i : Nat} {G : GR} {R : SR} (hV : INV i G R) (hi : i + 4 ≤ 4) (v1 : Int32) : (f_X5_append G v1).1 = (f_X6_append R v1).1 := sorry
theorem inv_append {i : Nat} {G : GR} {R : SR} (hV : INV i G R) (hi : i + 4 ≤ 4) (v1 : Int32) (g0 : WFG ((f_X5_append G v1).2)) (g1 : RA ((f_X6_append R v1).2)) (g2 : RS ((f_X6_append R v1).2)) : INV (i + 4) ((f_X5_append G v1).2) ((f_X6_append R v1).2) := sorry
theorem cmp_clearText {i : Nat} {G : GR} {R : SR} (hV : INV i G R) (hi : i + 4 ≤ 4) : (f_X5_clearText G).1 = (f_X6_clearText R).1 := sorry
theorem inv_clearText {i : Nat} {G : GR} {R : SR} (hV : INV i G R) (hi : i + 4 ≤ 4) (g0 : WFG ((f_X5_clearText G).2)) (g1 : RA ((f_X6_clearText R).2)) (g2 : RS ((f_X6_clearText R).2)) : INV (i + 4) ((f_X5_clearText G).2) ((f_X6_clearText R).2) := sorry
theorem cmp_load {i : Nat} {G : GR} {R : SR} (hV : INV i G R) (hi : i + 4 ≤ 4) : (f_X5_load G).1 = (f_X6_load R).1 := sorry
theorem inv_load {i : Nat} {G : GR} {R : SR} (hV : INV i G R) (hi : i + 4 ≤ 4) (g0 : WFG ((f_X5_load G).2)) (g1 : RA ((f_X6_load R).2)) (g2 : RS ((f_X6_load R).2)) : INV (i + 4) ((f_X5_load G).2) ((f_X6_load R).2) := sorry
theorem cmp_count {i : Nat} {G : GR} {R : SR} (hV : INV i G R) (hi : i + 4 ≤ 4) (v1 : Int32) : f_X5_count G v1 = (f_X6_count R v1).1 := sorry
theorem inv_count {i : Nat} {G : GR} {R : SR} (hV : INV i G R) (hi : i + 4 ≤ 4) (v1 : Int32) (g0 : RA ((f_X6_count R v1).2)) (g1 : RS ((f_X6_count R v1).2)) : INV (i + 4) (G) ((f_X6_count R v1).2) := sorry
theorem cmp_channel {i : Nat} {G : GR} {R : SR} (hV : INV i G R) (hi : i + 4 ≤ 4) (v1 v2 : Int32) : f_X5_channel G v1 v2 = (f_X6_channel R v1 v2).1 := sorry
theorem inv_channel {i : Nat} {G : GR} {R : SR} (hV : INV i G R) (hi : i + 4 ≤ 4) (v1 v2 : Int32) (g0 : RA ((f_X6_channel R v1 v2).2)) (g1 : RS ((f_X6_channel R v1 v2).2)) : INV (i + 4) (G) ((f_X6_channel R v1 v2).2) := sorry
theorem cmp_group {i : Nat} {G : GR} {R : SR} (hV : INV i G R) (hi : i + 4 ≤ 4) (v1 v2 : Int32) : f_X5_group G v1 v2 = (f_X6_group R v1 v2).1 := sorry
theorem inv_group {i : Nat} {G : GR} {R : SR} (hV : INV i G R) (hi : i + 4 ≤ 4) (v1 v2 : Int32) (g0 : RA ((f_X6_group R v1 v2).2)) (g1 : RS ((f_X6_group R v1 v2).2)) : INV (i + 4) (G) ((f_X6_group R v1 v2).2) := sorry
theorem cmp_feed {i : Nat} {G : GR} {R : SR} (hV : INV i G R) (hi : i + 4 ≤ 4) (v1 v2 : Int32) : f_X5_feed G v1 v2 = (f_X6_feed R v1 v2).1 := sorry
theorem inv_feed {i : Nat} {G : GR} {R : SR} (hV : INV i G R) (hi : i + 4 ≤ 4) (v1 v2 : Int32) (g0 : RA ((f_X6_feed R v1 v2).2)) (g1 : RS ((f_X6_feed R v1 v2).2)) : INV (i + 4) (G) ((f_X6_feed R v1 v2).2) := sorry
theorem cmp_send {i : Nat} {G : GR} {R : SR} (hV : INV i G R) (hi : i + 4 ≤ 4) (v1 v2 v3 : Int32) : f_X5_send G v1 v2 v3 = (f_X6_send R v1 v2 v3).1 := sorry
theorem inv_send {i : Nat} {G : GR} {R : SR} (hV : INV i G R) (hi : i + 4 ≤ 4) (v1 v2 v3 : Int32) (g0 : RA ((f_X6_send R v1 v2 v3).2)) (g1 : RS ((f_X6_send R v1 v2 v3).2)) : INV (i + 4) (G) ((f_X6_send R v1 v2 v3).2) := sorry
theorem cmp_scene {i : Nat} {G : GR} {R : SR} (hV : INV i G R) (hi : i + 4 ≤ 4) (v1 v2 : Int32) : f_X5_scene G v1 v2 = (f_X6_scene R v1 v2).1 := sorry
theorem inv_scene {i : Nat} {G : GR} {R : SR} (hV : INV i G R) (hi : i + 4 ≤ 4) (v1 v2 : Int32) (g0 : RA ((f_X6_scene R v1 v2).2)) (g1 : RS ((f_X6_scene R v1 v2).2)) : INV (i + 4) (G) ((f_X6_scene R v1 v2).2) := sorry
theorem cmp_why {i : Nat} {G : GR} {R : SR} (hV : INV i G R) (hi : i + 4 ≤ 4) (v1 : Int32) : f_X5_why G v1 = (f_X6_why R v1).1 := sorry
theorem inv_why {i : Nat} {G : GR} {R : SR} (hV : INV i G R) (hi : i + 4 ≤ 4) (v1 : Int32) (g0 : RA ((f_X6_why R v1).2)) (g1 : RS ((f_X6_why R v1).2)) : INV (i + 4) (G) ((f_X6_why R v1).2) := sorry
theorem cmp_path {i : Nat} {G : GR} {R : SR} (hV : INV i G R) (hi : i + 4 ≤ 4) (v1 v2 v3 : Int32) : (f_X5_path G v1 v2 v3).1 = (f_X6_path R v1 v2 v3).1 := sorry
theorem inv_path {i : Nat} {G : GR} {R : SR} (hV : INV i G R) (hi : i + 4 ≤ 4) (v1 v2 v3 : Int32) (g0 : WFG ((f_X5_path G v1 v2 v3).2)) (g1 : RA ((f_X6_path R v1 v2 v3).2)) (g2 : RS ((f_X6_path R v1 v2 v3).2)) : INV (i + 4) ((f_X5_path G v1 v2 v3).2) ((f_X6_path R v1 v2 v3).2) := sorry
theorem cmp_loudest {i : Nat} {G : GR} {R : SR} (hV : INV i G R) (hi : i + 4 ≤ 4) (v1 v2 : Int32) : (f_X5_loudest G v1 v2).1 = (f_X6_loudest R v1 v2).1 := sorry
theorem inv_loudest {i : Nat} {G : GR} {R : SR} (hV : INV i G R) (hi : i + 4 ≤ 4) (v1 v2 : Int32) (g0 : WFG ((f_X5_loudest G v1 v2).2)) (g1 : RA ((f_X6_loudest R v1 v2).2)) (g2 : RS ((f_X6_loudest R v1 v2).2)) : INV (i + 4) ((f_X5_loudest G v1 v2).2) ((f_X6_loudest R v1 v2).2) := sorry
theorem cmp_loops {i : Nat} {G : GR} {R : SR} (hV : INV i G R) (hi : i + 4 ≤ 4) : (f_X5_loops G).1 = (f_X6_loops R).1 := sorry
theorem inv_loops {i : Nat} {G : GR} {R : SR} (hV : INV i G R) (hi : i + 4 ≤ 4) (g0 : WFG ((f_X5_loops G).2)) (g1 : RA ((f_X6_loops R).2)) (g2 : RS ((f_X6_loops R).2)) : INV (i + 4) ((f_X5_loops G).2) ((f_X6_loops R).2) := sorry
theorem cmp_hearers {i : Nat} {G : GR} {R : SR} (hV : INV i G R) (hi : i + 4 ≤ 4) (v1 : Int32) : (f_X5_hearers G v1).1 = (f_X6_hearers R v1).1 := sorry
theorem inv_hearers {i : Nat} {G : GR} {R : SR} (hV : INV i G R) (hi : i + 4 ≤ 4) (v1 : Int32) (g0 : WFG ((f_X5_hearers G v1).2)) (g1 : RA ((f_X6_hearers R v1).2)) (g2 : RS ((f_X6_hearers R v1).2)) : INV (i + 4) ((f_X5_hearers G v1).2) ((f_X6_hearers R v1).2) := sorry
theorem cmp_outputIn {i : Nat} {G : GR} {R : SR} (hV : INV i G R) (hi : i + 4 ≤ 4) (v1 v2 : Int32) : (f_X5_outputIn G v1 v2).1 = (f_X6_outputIn R v1 v2).1 := sorry
theorem inv_outputIn {i : Nat} {G : GR} {R : SR} (hV : INV i G R) (hi : i + 4 ≤ 4) (v1 v2 : Int32) (g0 : WFG ((f_X5_outputIn G v1 v2).2)) (g1 : RA ((f_X6_outputIn R v1 v2).2)) (g2 : RS ((f_X6_outputIn R v1 v2).2)) : INV (i + 4) ((f_X5_outputIn G v1 v2).2) ((f_X6_outputIn R v1 v2).2) := sorry
theorem cmp_cut {i : Nat} {G : GR} {R : SR} (hV : INV i G R) (hi : i + 4 ≤ 4) (v1 : Int32) : (f_X5_cut G v1).1 = (f_X6_cut R v1).1 := sorry
theorem inv_cut {i : Nat} {G : GR} {R : SR} (hV : INV i G R) (hi : i + 4 ≤ 4) (v1 : Int32) (g0 : WFG ((f_X5_cut G v1).2)) (g1 : RA ((f_X6_cut R v1).2)) (g2 : RS ((f_X6_cut R v1).2)) : INV (i + 4) ((f_X5_cut G v1).2) ((f_X6_cut R v1).2) := sorry
theorem inv_none {i : Nat} {G : GR} {R : SR} (hV : INV i G R) : INV (i + 4) G R := sorry
theorem inv_wf {i : Nat} {G : GR} {R : SR} (hV : INV i G R) (hi : i + 4 ≤ 4) : WFG G ∧ RA R ∧ RS R ∧ vp_in (R 6 1) 6 ∧ vp_in (R 6 2) 141 := sorry
theorem inv_0 : INV 0 G0 R0 := sorry
