/-! the operations over the class's whole world -/
section OPS
variable {l : Launch} {G : va_G} {ca : Nat → ClassId} {tL tM : Nat} {A : AD} {v : VV} {n : Nat} {hs : Nat → SS} {u : Nat → Option SS}
/-- what the questions answer, by the number asked -/
def hldA (S : SS) (w p : Nat) : Int32 := if s_pd S (w * 12 + p) ≤ 0 then (-6) else s_pd S (w * 12 + p)
def dryA (S : SS) (p : Nat) : Int32 := if s_wa S p = 0 then 0 else if 0 < s_se S 1 then (if bt1 (s_fz S) p = 0 then (s_wa S p + s_se S 1 - 1) / s_se S 1 else (s_wa S p + s_se S 1 - 1) / s_se S 1 + 1) else (-6)
def pudA (S : SS) (p : Nat) : Nat → Int32 | 0 => s_br S p | 1 => s_wa S p | 2 => s_wa S p / 5 | 3 => (if bt1 (s_fz S) p = 0 then 0 else 1) | 4 => (if bt1 (s_dk S) p = 0 then 0 else 1) | 5 => s_cr S p | _ => mkD (fun w => hasP (s_pd S) w p) 6
def walA (S : SS) (w : Nat) : Nat → Int32 | 0 => s_sh S w | 1 => s_ow S w | 2 => s_pa S w | 3 => s_cb S w | 4 => mkD (hasP (s_pd S) w) 12 | _ => mkD (mayC S w) 12
def pmA (S : SS) : Int32 := smD (fun w => bcN (mkD (hasP (s_pd S) w) 12)) 6
def cntA (S : SS) : Nat → Int32 | 4 => s_dy S | 5 => smD (s_wa S) 12 | 6 => s_fe S | 7 => s_dr S | 8 => s_dn S | 9 => s_fz S | 10 => s_dk S | 11 => pmA S | 12 => smD (s_ow S) 6 | 13 => smD (s_pa S) 6 | 14 => 0 | k => s_se S k
theorem k_set_out (x z : Int32) (hx : x < 0 ∨ nI 4 ≤ x) : KO l G ca tL tM A v v yX4_set wsX4_set [.int x, .int z] (-2) := by
  refine k_askS (fun kj bj Tj O => c_X4_set_out l G ca tL tM _ _ _ _ _ _ _ _ _ _ _ _ _ _ _ _ O _ x z hx) (by decide)
theorem k_set_bad {k : Nat} (hk : k < 4) (z : Int32) (hz : z < lst4 k ∨ ¬ z ≤ mst4 k) : KO l G ca tL tM A v v yX4_set wsX4_set [.int (nI k), .int z] (-2) := by
  refine k_askS (fun kj bj Tj O => c_X4_set_bad l G ca tL tM _ _ _ _ _ _ _ _ _ _ _ _ _ _ _ _ O _ k z hk hz) (by decide)
theorem k_brim_out (x z : Int32) (hx : x < 0 ∨ nI 12 ≤ x) : KO l G ca tL tM A v v yX4_brim wsX4_brim [.int x, .int z] (-1) := by
  refine k_ask (fun kj bj Tj O => c_X4_brim_out l G ca _ _ _ _ _ _ _ _ _ _ _ _ _ _ _ _ O _ x z hx) (by decide)
theorem k_brim_bad {p : Nat} (hp : p < 12) (z : Int32) (hz : z < 1 ∨ ¬ z ≤ 60) : KO l G ca tL tM A v v yX4_brim wsX4_brim [.int (nI p), .int z] (-2) := by
  refine k_ask (fun kj bj Tj O => c_X4_brim_bad l G ca _ _ _ _ _ _ _ _ _ _ _ _ _ _ _ _ O _ p z hp hz) (by decide)
theorem k_drain_out (x : Int32) (hx : x < 0 ∨ nI 12 ≤ x) : KO l G ca tL tM A v v yX4_drain wsX4_drain [.int x] (-1) := by
  refine k_ask (fun kj bj Tj O => c_X4_drain_out l G ca _ _ _ _ _ _ _ _ _ _ _ _ _ _ _ _ O _ x hx) (by decide)
theorem k_drain_ducks {p : Nat} (hp : p < 12) (hd : ¬ bt1 (s_dk v.1) p = 0) : KO l G ca tL tM A v v yX4_drain wsX4_drain [.int (nI p)] (-5) := by
  refine k_ask (fun kj bj Tj O => c_X4_drain_ducks l G ca _ _ _ _ _ _ _ _ _ _ _ _ _ _ _ _ O _ p hp hd) (by decide)
theorem k_shoes_out (x z : Int32) (hx : x < 0 ∨ nI 6 ≤ x) : KO l G ca tL tM A v v yX4_shoes wsX4_shoes [.int x, .int z] (-1) := by
  refine k_ask (fun kj bj Tj O => c_X4_shoes_out l G ca _ _ _ _ _ _ _ _ _ _ _ _ _ _ _ _ O _ x z hx) (by decide)
theorem k_shoes_bad {w : Nat} (hw : w < 6) (z : Int32) (hz : z < 0 ∨ ¬ z ≤ 3) : KO l G ca tL tM A v v yX4_shoes wsX4_shoes [.int (nI w), .int z] (-2) := by
  refine k_ask (fun kj bj Tj O => c_X4_shoes_bad l G ca _ _ _ _ _ _ _ _ _ _ _ _ _ _ _ _ O _ w z hw hz) (by decide)
theorem k_permit_outw (x z : Int32) (hx : x < 0 ∨ nI 6 ≤ x) : KO l G ca tL tM A v v yX4_permit wsX4_permit [.int x, .int z] (-1) := by
  refine k_ask (fun kj bj Tj O => c_X4_permit_outw l G ca _ _ _ _ _ _ _ _ _ _ _ _ _ _ _ _ O _ x z hx) (by decide)
theorem k_permit_outp {w : Nat} (hw : w < 6) (x : Int32) (hx : x < 0 ∨ nI 12 ≤ x) : KO l G ca tL tM A v v yX4_permit wsX4_permit [.int (nI w), .int x] (-1) := by
  refine k_ask (fun kj bj Tj O => c_X4_permit_outp l G ca _ _ _ _ _ _ _ _ _ _ _ _ _ _ _ _ O _ w x hw hx) (by decide)
theorem k_permit_ducks {w p : Nat} (hw : w < 6) (hp : p < 12) (hd : ¬ bt1 (s_dk v.1) p = 0) : KO l G ca tL tM A v v yX4_permit wsX4_permit [.int (nI w), .int (nI p)] (-5) := by
  refine k_ask (fun kj bj Tj O => c_X4_permit_ducks l G ca _ _ _ _ _ _ _ _ _ _ _ _ _ _ _ _ O _ w p hw hp hd) (by decide)
theorem k_pay_out (x : Int32) (hx : x < 0 ∨ nI 6 ≤ x) : KO l G ca tL tM A v v yX4_pay wsX4_pay [.int x] (-1) := by
  refine k_ask (fun kj bj Tj O => c_X4_pay_out l G ca _ _ _ _ _ _ _ _ _ _ _ _ _ _ _ _ O _ x hx) (by decide)
theorem k_walk_outw (x z z2 : Int32) (hx : x < 0 ∨ nI 6 ≤ x) : KO l G ca tL tM A v v yX4_walk wsX4_walk [.int x, .int z, .int z2] (-1) := by
  refine k_ask (fun kj bj Tj O => c_X4_walk_outw l G ca _ _ _ _ _ _ _ _ _ _ _ _ _ _ _ _ O _ x z z2 hx) (by decide)
theorem k_walk_outf {w : Nat} (hw : w < 6) (x z : Int32) (hx : x < 0 ∨ nI 12 ≤ x) : KO l G ca tL tM A v v yX4_walk wsX4_walk [.int (nI w), .int x, .int z] (-1) := by
  refine k_ask (fun kj bj Tj O => c_X4_walk_outf l G ca _ _ _ _ _ _ _ _ _ _ _ _ _ _ _ _ O _ w x z hw hx) (by decide)
theorem k_walk_outt {w f : Nat} (hw : w < 6) (hf : f < 12) (x : Int32) (hx : x < 0 ∨ nI 12 ≤ x) : KO l G ca tL tM A v v yX4_walk wsX4_walk [.int (nI w), .int (nI f), .int x] (-1) := by
  refine k_ask (fun kj bj Tj O => c_X4_walk_outt l G ca _ _ _ _ _ _ _ _ _ _ _ _ _ _ _ _ O _ w f x hw hf hx) (by decide)
theorem k_pass_out (x : Int32) (hx : x < 0 ∨ ¬ x ≤ 11) : KO l G ca tL tM A v v yX4_pass wsX4_pass [.int x] (-2) := by
  refine k_ask (fun kj bj Tj O => c_X4_pass_out l G ca _ _ _ _ _ _ _ _ _ _ _ _ _ _ _ _ O _ x hx) (by decide)
theorem k_puddle_out (x z : Int32) (hx : x < 0 ∨ nI 12 ≤ x) : KO l G ca tL tM A v v yX4_puddle wsX4_puddle [.int x, .int z] (-1) := by
  refine k_ask (fun kj bj Tj O => c_X4_puddle_out l G ca _ _ _ _ _ _ _ _ _ _ _ _ _ _ _ _ O _ x z hx) (by decide)
theorem k_puddle_bad {p : Nat} (hp : p < 12) (z : Int32) (hz : z.toInt < 0 ∨ 6 < z.toInt) : KO l G ca tL tM A v v yX4_puddle wsX4_puddle [.int (nI p), .int z] (-2) := by
  refine k_ask (fun kj bj Tj O => c_X4_puddle_bad l G ca _ _ _ _ _ _ _ _ _ _ _ _ _ _ _ _ O _ p z hp hz) (by decide)
theorem k_walker_out (x z : Int32) (hx : x < 0 ∨ nI 6 ≤ x) : KO l G ca tL tM A v v yX4_walker wsX4_walker [.int x, .int z] (-1) := by
  refine k_ask (fun kj bj Tj O => c_X4_walker_out l G ca _ _ _ _ _ _ _ _ _ _ _ _ _ _ _ _ O _ x z hx) (by decide)
theorem k_walker_bad {w : Nat} (hw : w < 6) (z : Int32) (hz : z.toInt < 0 ∨ 5 < z.toInt) : KO l G ca tL tM A v v yX4_walker wsX4_walker [.int (nI w), .int z] (-2) := by
  refine k_ask (fun kj bj Tj O => c_X4_walker_bad l G ca _ _ _ _ _ _ _ _ _ _ _ _ _ _ _ _ O _ w z hw hz) (by decide)
theorem k_why_outw (x z : Int32) (hx : x < 0 ∨ nI 6 ≤ x) : KO l G ca tL tM A v v yX4_why wsX4_why [.int x, .int z] (-1) := by
  refine k_ask (fun kj bj Tj O => c_X4_why_outw l G ca _ _ _ _ _ _ _ _ _ _ _ _ _ _ _ _ O _ x z hx) (by decide)
theorem k_why_outp {w : Nat} (hw : w < 6) (x : Int32) (hx : x < 0 ∨ nI 12 ≤ x) : KO l G ca tL tM A v v yX4_why wsX4_why [.int (nI w), .int x] (-1) := by
  refine k_ask (fun kj bj Tj O => c_X4_why_outp l G ca _ _ _ _ _ _ _ _ _ _ _ _ _ _ _ _ O _ w x hw hx) (by decide)
theorem k_holds_outw (x z : Int32) (hx : x < 0 ∨ nI 6 ≤ x) : KO l G ca tL tM A v v yX4_holds wsX4_holds [.int x, .int z] (-1) := by
  refine k_ask (fun kj bj Tj O => c_X4_holds_outw l G ca _ _ _ _ _ _ _ _ _ _ _ _ _ _ _ _ O _ x z hx) (by decide)
theorem k_holds_outp {w : Nat} (hw : w < 6) (x : Int32) (hx : x < 0 ∨ nI 12 ≤ x) : KO l G ca tL tM A v v yX4_holds wsX4_holds [.int (nI w), .int x] (-1) := by
  refine k_ask (fun kj bj Tj O => c_X4_holds_outp l G ca _ _ _ _ _ _ _ _ _ _ _ _ _ _ _ _ O _ w x hw hx) (by decide)
theorem k_count_bad (x : Int32) (hx : x.toInt < 0 ∨ 15 < x.toInt) : KO l G ca tL tM A v v yX4_count wsX4_count [.int x] (-2) := by
  refine k_ask (fun kj bj Tj O => c_X4_count_bad l G ca _ _ _ _ _ _ _ _ _ _ _ _ _ _ _ _ O _ x hx) (by decide)
theorem k_cost_outw (x z z2 z3 : Int32) (hx : x < 0 ∨ nI 6 ≤ x) : KO l G ca tL tM A v v yX4_cost wsX4_cost [.int x, .int z, .int z2, .int z3] (-1) := by
  refine k_ask (fun kj bj Tj O => c_X4_cost_outw l G ca _ _ _ _ _ _ _ _ _ _ _ _ _ _ _ _ O _ x z z2 z3 hx) (by decide)
theorem k_cost_outf {w : Nat} (hw : w < 6) (x z z2 : Int32) (hx : x < 0 ∨ nI 12 ≤ x) : KO l G ca tL tM A v v yX4_cost wsX4_cost [.int (nI w), .int x, .int z, .int z2] (-1) := by
  refine k_ask (fun kj bj Tj O => c_X4_cost_outf l G ca _ _ _ _ _ _ _ _ _ _ _ _ _ _ _ _ O _ w x z z2 hw hx) (by decide)
theorem k_cost_outt {w f : Nat} (hw : w < 6) (hf : f < 12) (x z : Int32) (hx : x < 0 ∨ nI 12 ≤ x) : KO l G ca tL tM A v v yX4_cost wsX4_cost [.int (nI w), .int (nI f), .int x, .int z] (-1) := by
  refine k_ask (fun kj bj Tj O => c_X4_cost_outt l G ca _ _ _ _ _ _ _ _ _ _ _ _ _ _ _ _ O _ w f x z hw hf hx) (by decide)
theorem k_cost_bad {w f t : Nat} (hw : w < 6) (hf : f < 12) (ht : t < 12) (z : Int32) (h0 : ¬ z = 0) (h1 : ¬ z = 1) : KO l G ca tL tM A v v yX4_cost wsX4_cost [.int (nI w), .int (nI f), .int (nI t), .int z] (-2) := by
  refine k_ask (fun kj bj Tj O => c_X4_cost_bad l G ca _ _ _ _ _ _ _ _ _ _ _ _ _ _ _ _ O _ w f t z hw hf ht h0 h1) (by decide)
theorem k_untilDry_out (x : Int32) (hx : x < 0 ∨ nI 12 ≤ x) : KO l G ca tL tM A v v yX4_untilDry wsX4_untilDry [.int x] (-1) := by
  refine k_ask (fun kj bj Tj O => c_X4_untilDry_out l G ca _ _ _ _ _ _ _ _ _ _ _ _ _ _ _ _ O _ x hx) (by decide)
theorem k_leastShoes_out (x : Int32) (hx : x < 0 ∨ nI 6 ≤ x) : KO l G ca tL tM A v v yX4_leastShoes wsX4_leastShoes [.int x] (-1) := by
  refine k_ask (fun kj bj Tj O => c_X4_leastShoes_out l G ca _ _ _ _ _ _ _ _ _ _ _ _ _ _ _ _ O _ x hx) (by decide)
theorem k_longestWalk_out (x z : Int32) (hx : x < 0 ∨ nI 6 ≤ x) : KO l G ca tL tM A v v yX4_longestWalk wsX4_longestWalk [.int x, .int z] (-1) := by
  refine k_ask (fun kj bj Tj O => c_X4_longestWalk_out l G ca _ _ _ _ _ _ _ _ _ _ _ _ _ _ _ _ O _ x z hx) (by decide)
theorem k_longestWalk_bad {w : Nat} (hw : w < 6) (z : Int32) (h0 : ¬ z = 0) (h1 : ¬ z = 1) : KO l G ca tL tM A v v yX4_longestWalk wsX4_longestWalk [.int (nI w), .int z] (-2) := by
  refine k_ask (fun kj bj Tj O => c_X4_longestWalk_bad l G ca _ _ _ _ _ _ _ _ _ _ _ _ _ _ _ _ O _ w z hw h0 h1) (by decide)
theorem k_why {w p : Nat} (hw : w < 6) (hp : p < 12) : KO l G ca tL tM A v v yX4_why wsX4_why [.int (nI w), .int (nI p)] (rsnA v.1 w p (s_sh v.1 w)) := by
  refine k_ask (fun kj bj Tj O => c_X4_why_ok l G ca _ _ _ _ _ _ _ _ _ _ _ _ _ _ _ _ O _ w p hw hp) (by decide)
theorem k_holds {w p : Nat} (hw : w < 6) (hp : p < 12) : KO l G ca tL tM A v v yX4_holds wsX4_holds [.int (nI w), .int (nI p)] (hldA v.1 w p) := by
  refine k_ask (fun kj bj Tj O => c_X4_holds_ok l G ca _ _ _ _ _ _ _ _ _ _ _ _ _ _ _ _ O _ w p hw hp) (by decide)
theorem k_untilDry {p : Nat} (hp : p < 12) : KO l G ca tL tM A v v yX4_untilDry wsX4_untilDry [.int (nI p)] (dryA v.1 p) := by
  refine k_ask (fun kj bj Tj O => c_X4_untilDry_ok l G ca _ _ _ _ _ _ _ _ _ _ _ _ _ _ _ _ O _ p hp) (by decide)
theorem k_leastShoes {w : Nat} (hw : w < 6) : KO l G ca tL tM A v v yX4_leastShoes wsX4_leastShoes [.int (nI w)] (lsG (lsA v.1 w) 4 0) := by
  refine k_ask (fun kj bj Tj O => c_X4_leastShoes_ok l G ca _ _ _ _ _ _ _ _ _ _ _ _ _ _ _ _ O _ w hw) (by decide)
theorem k_longest {w n12 : Nat} (hw : w < 6) (h12 : n12 = 12) : KO l G ca tL tM A v v yX4_longestWalk wsX4_longestWalk [.int (nI w), .int (nI 0)] (lwL (mkD (mayC v.1 w) 12) n12).2.1 := by
  refine k_ask (fun kj bj Tj O => c_X4_longestWalk_0 l G ca _ _ _ _ _ _ _ _ _ _ _ _ _ _ _ _ O _ w n12 hw h12) (by decide)
theorem k_cost {w f t : Nat} (hw : w < 6) (hf : f < 12) (ht : t < 12) : KO l G ca tL tM A v v yX4_cost wsX4_cost [.int (nI w), .int (nI f), .int (nI t), .int (nI 1)] (smD (fun k => dutyA v.1 (plc k f t)) (stU v.1 w f t)) := by
  refine k_ask (fun kj bj Tj O => c_X4_cost_1 l G ca _ _ _ _ _ _ _ _ _ _ _ _ _ _ _ _ O _ w f t hw hf ht) (by decide)
theorem k_puddle {p : Nat} (hp : p < 12) {q : Nat} (hq : q < 7) : KO l G ca tL tM A v v yX4_puddle wsX4_puddle [.int (nI p), .int (nI q)] (pudA v.1 p q) := by
  match q, hq with
  | 0, _ => exact k_ask (fun kj bj Tj O => c_X4_puddle_0 l G ca _ _ _ _ _ _ _ _ _ _ _ _ _ _ _ _ O _ p hp) (by decide)
  | 1, _ => exact k_ask (fun kj bj Tj O => c_X4_puddle_1 l G ca _ _ _ _ _ _ _ _ _ _ _ _ _ _ _ _ O _ p hp) (by decide)
  | 2, _ => exact k_ask (fun kj bj Tj O => c_X4_puddle_2 l G ca _ _ _ _ _ _ _ _ _ _ _ _ _ _ _ _ O _ p hp) (by decide)
  | 3, _ => exact k_ask (fun kj bj Tj O => c_X4_puddle_3 l G ca _ _ _ _ _ _ _ _ _ _ _ _ _ _ _ _ O _ p hp) (by decide)
  | 4, _ => exact k_ask (fun kj bj Tj O => c_X4_puddle_4 l G ca _ _ _ _ _ _ _ _ _ _ _ _ _ _ _ _ O _ p hp) (by decide)
  | 5, _ => exact k_ask (fun kj bj Tj O => c_X4_puddle_5 l G ca _ _ _ _ _ _ _ _ _ _ _ _ _ _ _ _ O _ p hp) (by decide)
  | 6, _ => exact k_ask (fun kj bj Tj O => c_X4_puddle_6 l G ca _ _ _ _ _ _ _ _ _ _ _ _ _ _ _ _ O _ p hp) (by decide)
  | k + 7, h => exact absurd h (by omega)
theorem k_walker {w : Nat} (hw : w < 6) {q : Nat} (hq : q < 6) : KO l G ca tL tM A v v yX4_walker wsX4_walker [.int (nI w), .int (nI q)] (walA v.1 w q) := by
  match q, hq with
  | 0, _ => exact k_ask (fun kj bj Tj O => c_X4_walker_0 l G ca _ _ _ _ _ _ _ _ _ _ _ _ _ _ _ _ O _ w hw) (by decide)
  | 1, _ => exact k_ask (fun kj bj Tj O => c_X4_walker_1 l G ca _ _ _ _ _ _ _ _ _ _ _ _ _ _ _ _ O _ w hw) (by decide)
  | 2, _ => exact k_ask (fun kj bj Tj O => c_X4_walker_2 l G ca _ _ _ _ _ _ _ _ _ _ _ _ _ _ _ _ O _ w hw) (by decide)
  | 3, _ => exact k_ask (fun kj bj Tj O => c_X4_walker_3 l G ca _ _ _ _ _ _ _ _ _ _ _ _ _ _ _ _ O _ w hw) (by decide)
  | 4, _ => exact k_ask (fun kj bj Tj O => c_X4_walker_4 l G ca _ _ _ _ _ _ _ _ _ _ _ _ _ _ _ _ O _ w hw) (by decide)
  | 5, _ => exact k_ask (fun kj bj Tj O => c_X4_walker_5 l G ca _ _ _ _ _ _ _ _ _ _ _ _ _ _ _ _ O _ w hw) (by decide)
  | k + 6, h => exact absurd h (by omega)
theorem k_count (h0 : v.2.2.1 = 0) {q : Nat} (hq : q < 15) : KO l G ca tL tM A v v yX4_count wsX4_count [.int (nI q)] (cntA v.1 q) := by
  match q, hq with
  | 0, _ => exact k_ask (fun kj bj Tj O => c_X4_count_0 l G ca _ _ _ _ _ _ _ _ _ _ _ _ _ _ _ _ O _ 0 (by decide)) (by decide)
  | 1, _ => exact k_ask (fun kj bj Tj O => c_X4_count_0 l G ca _ _ _ _ _ _ _ _ _ _ _ _ _ _ _ _ O _ 1 (by decide)) (by decide)
  | 2, _ => exact k_ask (fun kj bj Tj O => c_X4_count_0 l G ca _ _ _ _ _ _ _ _ _ _ _ _ _ _ _ _ O _ 2 (by decide)) (by decide)
  | 3, _ => exact k_ask (fun kj bj Tj O => c_X4_count_0 l G ca _ _ _ _ _ _ _ _ _ _ _ _ _ _ _ _ O _ 3 (by decide)) (by decide)
  | 4, _ => exact k_ask (fun kj bj Tj O => c_X4_count_4 l G ca _ _ _ _ _ _ _ _ _ _ _ _ _ _ _ _ O _ ) (by decide)
  | 5, _ => exact k_ask (fun kj bj Tj O => c_X4_count_5 l G ca _ _ _ _ _ _ _ _ _ _ _ _ _ _ _ _ O _ ) (by decide)
  | 6, _ => exact k_ask (fun kj bj Tj O => c_X4_count_6 l G ca _ _ _ _ _ _ _ _ _ _ _ _ _ _ _ _ O _ ) (by decide)
  | 7, _ => exact k_ask (fun kj bj Tj O => c_X4_count_7 l G ca _ _ _ _ _ _ _ _ _ _ _ _ _ _ _ _ O _ ) (by decide)
  | 8, _ => exact k_ask (fun kj bj Tj O => c_X4_count_8 l G ca _ _ _ _ _ _ _ _ _ _ _ _ _ _ _ _ O _ ) (by decide)
  | 9, _ => exact k_ask (fun kj bj Tj O => c_X4_count_9 l G ca _ _ _ _ _ _ _ _ _ _ _ _ _ _ _ _ O _ ) (by decide)
  | 10, _ => exact k_ask (fun kj bj Tj O => c_X4_count_10 l G ca _ _ _ _ _ _ _ _ _ _ _ _ _ _ _ _ O _ ) (by decide)
  | 11, _ => exact k_ask (fun kj bj Tj O => c_X4_count_11 l G ca _ _ _ _ _ _ _ _ _ _ _ _ _ _ _ _ O _ ) (by decide)
  | 12, _ => exact k_ask (fun kj bj Tj O => c_X4_count_12 l G ca _ _ _ _ _ _ _ _ _ _ _ _ _ _ _ _ O _ ) (by decide)
  | 13, _ => exact k_ask (fun kj bj Tj O => c_X4_count_13 l G ca _ _ _ _ _ _ _ _ _ _ _ _ _ _ _ _ O _ ) (by decide)
  | 14, _ => exact by have h := k_ask (l := l) (G := G) (ca := ca) (tL := tL) (tM := tM) (A := A) (v := v) (fun kj bj Tj O => c_X4_count_14 l G ca _ _ _ _ _ _ _ _ _ _ _ _ _ _ _ _ O _ ) (by decide); rw [h0] at h; exact h
  | k + 15, h => exact absurd h (by omega)
theorem k_states (hR : Ab A v n hs u) : KO l G ca tL tM A v v yX4_count wsX4_count [.int (nI 15)] (nI n) := by
  rw [← hR.2.1]
  exact k_ask (fun kj bj Tj O => c_X4_count_15 l G ca _ _ _ _ _ _ _ _ _ _ _ _ _ _ _ _ O _ ) (by decide)
theorem k_wipe (h0 : v.2.2.1 = 0) : KO l G ca tL tM A v v yX4_wipe wsX4_wipe [] 0 := by
  obtain ⟨S, g, np, n, rf, T, us, T2⟩ := v
  have h0 : np = 0 := h0
  subst h0
  exact (ask_step (fun kj bj Tj O => (c_X4_wipe l G ca _ _ _ _ _ _ _ _ _ _ _ _ _ _ _ _ O _ ).toS tL tM)).room (by decide) (by decide) (by decide) (by decide)
theorem k_read (h0 : v.2.2.1 = 0) : KO l G ca tL tM A v v yX4_read wsX4_read [] (-3) := by
  refine k_ask (fun kj bj Tj O => c_X4_read_bad l G ca _ _ _ _ _ _ _ _ _ _ _ _ _ _ _ _ O _ (by omega) (by rw [h0]; exact (by decide : ¬ (0 : Int32) = -6))) (by decide)
theorem k_fault (h0 : v.2.2.1 = 0) : KO l G ca tL tM A v v yX4_fault wsX4_fault [] 0 := by
  have h : KO l G ca tL tM A v v yX4_fault wsX4_fault [] (ffG v.2.1 v.2.2.1 v.2.2.1 0) := k_ask (fun kj bj Tj O => c_X4_fault l G ca _ _ _ _ _ _ _ _ _ _ _ _ _ _ _ _ O _ (by omega)) (by decide)
  rw [h0] at h
  exact h
theorem k_set (hR : Ab A v n hs u) {k : Nat} (hk : k < 4) {z : Int32} (h1 : ¬ z < lst4 k) (h2 : z ≤ mst4 k) : ∃ v' : VV, v'.1 = (upd (s_se v.1) k z, s_br v.1, s_wa v.1, s_cr v.1, s_sh v.1, s_ow v.1, s_pa v.1, s_cb v.1, s_pd v.1, s_fz v.1, s_dk v.1, s_dy v.1, s_fe v.1, s_dr v.1, s_dn v.1) ∧ Ab A v' (recN n) (consS v.1 hs) u ∧ KO l G ca tL tM A v v' yX4_set wsX4_set [.int (nI k), .int z] (s_se v.1 k) :=
  k_rec hR (fun kj bj Tj O e1 e2 => c_X4_set_ok l G ca tL tM _ _ _ _ _ _ _ _ _ _ _ _ _ _ _ _ O _ k z hR.n7 e1 e2 hk h1 h2) (by decide)
theorem k_brim (hR : Ab A v n hs u) {p : Nat} (hp : p < 12) {z : Int32} (h1 : ¬ z < 1) (h2 : z ≤ 60) : ∃ v' : VV, v'.1 = (s_se v.1, upd (s_br v.1) p z, dnWa (s_wa v.1) p z, s_cr v.1, s_sh v.1, s_ow v.1, s_pa v.1, s_cb v.1, s_pd v.1, s_fz v.1, s_dk v.1, s_dy v.1, s_fe v.1, s_dr v.1, dnDn (s_wa v.1) (s_dn v.1) p z) ∧ Ab A v' (recN n) (consS v.1 hs) u ∧ KO l G ca tL tM A v v' yX4_brim wsX4_brim [.int (nI p), .int z] (s_br v.1 p) :=
  k_rec hR (fun kj bj Tj O e1 e2 => (c_X4_brim_ok l G ca _ _ _ _ _ _ _ _ _ _ _ _ _ _ _ _ O _ p z hR.n7 e1 e2 hp h1 h2).toS tL tM) (by decide)
theorem k_drain (hR : Ab A v n hs u) {p : Nat} (hp : p < 12) (hd : bt1 (s_dk v.1) p = 0) : ∃ v' : VV, v'.1 = (s_se v.1, s_br v.1, dnWa (s_wa v.1) p 0, s_cr v.1, s_sh v.1, s_ow v.1, s_pa v.1, s_cb v.1, s_pd v.1, thaw1 (s_fz v.1) p, s_dk v.1, s_dy v.1, s_fe v.1, s_dr v.1, dnDn (s_wa v.1) (s_dn v.1) p 0) ∧ Ab A v' (recN n) (consS v.1 hs) u ∧ KO l G ca tL tM A v v' yX4_drain wsX4_drain [.int (nI p)] (s_wa v.1 p) :=
  k_rec hR (fun kj bj Tj O e1 e2 => (c_X4_drain_ok l G ca _ _ _ _ _ _ _ _ _ _ _ _ _ _ _ _ O _ p hR.n7 e1 e2 hp hd).toS tL tM) (by decide)
theorem k_shoes (hR : Ab A v n hs u) {w : Nat} (hw : w < 6) {z : Int32} (h1 : ¬ z < 0) (h2 : z ≤ 3) : ∃ v' : VV, v'.1 = (s_se v.1, s_br v.1, s_wa v.1, s_cr v.1, upd (s_sh v.1) w z, s_ow v.1, s_pa v.1, s_cb v.1, s_pd v.1, s_fz v.1, s_dk v.1, s_dy v.1, s_fe v.1, s_dr v.1, s_dn v.1) ∧ Ab A v' (recN n) (consS v.1 hs) u ∧ KO l G ca tL tM A v v' yX4_shoes wsX4_shoes [.int (nI w), .int z] (s_sh v.1 w) :=
  k_rec hR (fun kj bj Tj O e1 e2 => (c_X4_shoes_ok l G ca _ _ _ _ _ _ _ _ _ _ _ _ _ _ _ _ O _ w z hR.n7 e1 e2 hw h1 h2).toS tL tM) (by decide)
theorem k_permit (hR : Ab A v n hs u) {w p : Nat} (hw : w < 6) (hp : p < 12) (hd : bt1 (s_dk v.1) p = 0) : ∃ v' : VV, v'.1 = (s_se v.1, s_br v.1, s_wa v.1, s_cr v.1, s_sh v.1, s_ow v.1, s_pa v.1, s_cb v.1, upd (s_pd v.1) (w * 12 + p) (s_se v.1 3), s_fz v.1, s_dk v.1, s_dy v.1, s_fe v.1, s_dr v.1, s_dn v.1) ∧ Ab A v' (recN n) (consS v.1 hs) u ∧ KO l G ca tL tM A v v' yX4_permit wsX4_permit [.int (nI w), .int (nI p)] (bcN (mkD (hasP (upd (s_pd v.1) (w * 12 + p) (s_se v.1 3)) w) 12)) :=
  k_rec hR (fun kj bj Tj O e1 e2 => (c_X4_permit_ok l G ca _ _ _ _ _ _ _ _ _ _ _ _ _ _ _ _ O _ w p hR.n7 e1 e2 hw hp hd).toS tL tM) (by decide)
theorem k_pay (hR : Ab A v n hs u) {w : Nat} (hw : w < 6) : ∃ v' : VV, v'.1 = (s_se v.1, s_br v.1, s_wa v.1, s_cr v.1, s_sh v.1, upd (s_ow v.1) w 0, upd (s_pa v.1) w (s_pa v.1 w + s_ow v.1 w), s_cb v.1, s_pd v.1, s_fz v.1, s_dk v.1, s_dy v.1, s_fe v.1, s_dr v.1, s_dn v.1) ∧ Ab A v' (recN n) (consS v.1 hs) u ∧ KO l G ca tL tM A v v' yX4_pay wsX4_pay [.int (nI w)] (s_ow v.1 w) :=
  k_rec hR (fun kj bj Tj O e1 e2 => (c_X4_pay_ok l G ca _ _ _ _ _ _ _ _ _ _ _ _ _ _ _ _ O _ w hR.n7 e1 e2 hw).toS tL tM) (by decide)
theorem k_walk (hR : Ab A v n hs u) {w f t : Nat} (hw : w < 6) (hf : f < 12) (ht : t < 12) : ∃ v' : VV, v'.1 = crS v.1 w f t (stU v.1 w f t) ∧ Ab A v' (recN n) (consS v.1 hs) u ∧ KO l G ca tL tM A v v' yX4_walk wsX4_walk [.int (nI w), .int (nI f), .int (nI t)] (nI (stU v.1 w f t)) :=
  k_rec hR (fun kj bj Tj O e1 e2 => (c_X4_walk_ok l G ca _ _ _ _ _ _ _ _ _ _ _ _ _ _ _ _ O _ w f t hR.n7 e1 e2 hw hf ht).toS tL tM) (by decide)
theorem k_pass (hR : Ab A v n hs u) {x : Int32} {n6 n12 : Nat} (h1 : ¬ x < 0) (h2 : x ≤ 11) (hd : ¬ (x = 11 ∧ 9999 ≤ s_dy v.1)) (h6 : n6 = 6) (h12 : n12 = 12) : ∃ v' : VV, v'.1 = lpS x v.1 n6 n12 ∧ Ab A v' (recN n) (consS v.1 hs) u ∧ KO l G ca tL tM A v v' yX4_pass wsX4_pass [.int x] (smD (s_wa (lpS x v.1 n6 n12)) 12) :=
  k_rec hR (fun kj bj Tj O e1 e2 => (c_X4_pass_ok l G ca _ _ _ _ _ _ _ _ _ _ _ _ _ _ _ _ O _ x n6 n12 hR.n7 e1 e2 h1 h2 hd h6 h12).toS tL tM) (by decide)
theorem pull {a x b y : va_W} (h : x.Perm (b ++ y)) : (a ++ x).Perm (b ++ (a ++ y)) := (h.append_left a).trans perm4
theorem push {a x y : va_W} (h : x.Perm y) : (a ++ x).Perm (a ++ y) := h.append_left a
theorem perm_u {a b c d e f : va_W} : ((a ++ (b ++ (c ++ (d ++ (e ++ f))))) ++ []).Perm ((a ++ (c ++ (e ++ (d ++ (b ++ f))))) ++ []) := by
  rw [List.append_nil, List.append_nil]
  exact push ((pull (List.Perm.refl _)).trans (push ((pull (pull (List.Perm.refl _))).trans (push (pull (List.Perm.refl _))))))
theorem perm_s {a b c d e f q k o : va_W} (hq : q.Perm (k ++ o)) : (a ++ (b ++ (c ++ (d ++ (e ++ (f ++ q)))))).Perm ((a ++ (f ++ (k ++ (d ++ (b ++ (c ++ (e ++ o))))))) ++ []) := by
  rw [List.append_nil]
  refine push ((pull (pull (pull (pull (List.Perm.refl _))))).trans (push ?_))
  exact (pull (pull (pull (pull hq)))).trans (push (pull (pull (List.Perm.refl _))))
theorem perm_r {a b c d e f q j o k p : va_W} (he : e.Perm (j ++ o)) (hq : q.Perm (k ++ p)) : (a ++ (b ++ (c ++ (d ++ (e ++ (f ++ q)))))).Perm ((a ++ (f ++ (c ++ (j ++ (d ++ (k ++ (o ++ (b ++ p)))))))) ++ []) := by
  rw [List.append_nil]
  refine push ((pull (pull (pull (pull (List.Perm.refl _))))).trans (push ?_))
  refine (pull (List.Perm.refl _)).trans (push ?_)
  have h1 : (e ++ q).Perm (j ++ (o ++ q)) := by rw [← List.append_assoc]; exact he.append_right q
  refine (pull (pull h1)).trans (push ?_)
  refine (pull (List.Perm.refl _)).trans (push ?_)
  refine (pull (pull hq)).trans (push ?_)
  exact pull (List.Perm.refl _)
theorem XV_slot (ca : Nat → ClassId) (A : AD) (v : VV) {k : Nat} (hk : k < 2) : ∃ O : va_W, ∀ (us : Nat → Int32) (X : SS), (XV ca A (v.1, v.2.1, v.2.2.1, v.2.2.2.1, v.2.2.2.2.1, v.2.2.2.2.2.1, us, updT v.2.2.2.2.2.2.2 k X)).Perm ((xoT A.1.1 A.1.2.1 A.1.2.2.1 A.1.2.2.2.1 A.1.2.2.2.2.1 ++ (slT ca A.1.2.2.2.2.1 A.1.2.2.2.2.2.2.2.1 A.1.2.2.2.2.2.2.2.2 A.2.2.2 us ++ (stT ca (A.2.1.2.2 k) (A.2.2.1.2 k) X ++ (stT ca A.1.2.1 A.2.1.1 v.1 ++ O)))) ++ []) := by
  obtain ⟨O, h1, -⟩ := sts_pick ca A.2.1.2.2 A.2.2.1.2 v.2.2.2.2.2.2.2 2 k hk
  exact ⟨paT ca A.1.2.2.1 A.1.2.2.2.2.2.1 (v.2.1, nI v.2.2.1) ++ (hiT ca A.1.2.2.2.1 A.1.2.2.2.2.2.2.1 (nI v.2.2.2.1) v.2.2.2.2.1 ++ (sts ca A.2.1.2.1 A.2.2.1.1 v.2.2.2.2.2.1 6 ++ O)), fun us X => perm_s (a := xoT A.1.1 A.1.2.1 A.1.2.2.1 A.1.2.2.2.1 A.1.2.2.2.2.1) (b := paT ca A.1.2.2.1 A.1.2.2.2.2.2.1 (v.2.1, nI v.2.2.1)) (c := hiT ca A.1.2.2.2.1 A.1.2.2.2.2.2.2.1 (nI v.2.2.2.1) v.2.2.2.2.1) (d := stT ca A.1.2.1 A.2.1.1 v.1) (e := sts ca A.2.1.2.1 A.2.2.1.1 v.2.2.2.2.2.1 6) (f := slT ca A.1.2.2.2.2.1 A.1.2.2.2.2.2.2.2.1 A.1.2.2.2.2.2.2.2.2 A.2.2.2 us) (h1 X)⟩
theorem k_undo0 (hR : Ab A v n hs u) (n0 : n = 0) : KO l G ca tL tM A v v yX4_undo wsX4_undo [] (-5) := by
  have n0' : v.2.2.2.1 = 0 := hR.2.1.trans n0
  obtain ⟨O, h1, -⟩ := sts_pick ca A.2.1.2.1 A.2.2.1.1 v.2.2.2.2.2.1 6 0 (by omega)
  have hp0 := XW_pick (xo := A.1.1) (h := A.1.2.1) (hp := A.1.2.2.1) (hh := A.1.2.2.2.1) (sl := A.1.2.2.2.2.1) (ap := A.1.2.2.2.2.2.1) (ka := A.1.2.2.2.2.2.2.1) (a := A.2.1.1) (SL := SLW ca A v.2.2.2.2.2.2.1 v.2.2.2.2.2.2.2) (g := v.2.1) (np := v.2.2.1) (n := v.2.2.2.1) (rf := v.2.2.2.2.1) (S := v.1) (h1 (v.2.2.2.2.2.1 0))
  rw [updT_self] at hp0
  have c4 := (c_X4_undo_none l G ca A.1.1 A.1.2.2.1 A.1.2.2.2.2.1 A.1.2.2.2.1 A.1.2.2.2.2.2.2.1 v.2.2.2.1 v.2.2.2.2.1 A.1.2.1 A.2.1.1 v.1 (A.2.1.2.1 0) (A.2.2.1.1 0) (v.2.2.2.2.2.1 0) (paT ca A.1.2.2.1 A.1.2.2.2.2.2.1 (v.2.1, nI v.2.2.1) ++ (O ++ SLW ca A v.2.2.2.2.2.2.1 v.2.2.2.2.2.2.2)) n0').toS tL tM
  exact (c4.frame (hp0.trans perm_u) (hp0.trans perm_u)).room (by decide) (by decide) (by decide) (by decide)
theorem k_undo (hR : Ab A v n hs u) (n0 : 0 < n) : ∃ v' : VV, v'.1 = hs 0 ∧ Ab A v' (n - 1) (fun i => hs (i + 1)) u ∧ KO l G ca tL tM A v v' yX4_undo wsX4_undo [] (nI (n - 1)) := by
  have n6 := hR.n6
  obtain ⟨r1, rfl, ⟨π, r2⟩, r3, r4⟩ := hR
  obtain ⟨u1, u2, u3, u4⟩ := r2.undo n0
  obtain ⟨O, h1, -⟩ := sts_pick ca A.2.1.2.1 A.2.2.1.1 v.2.2.2.2.2.1 6 (π (v.2.2.2.1 - 1)) u1
  have hp0 := XW_pick (xo := A.1.1) (h := A.1.2.1) (hp := A.1.2.2.1) (hh := A.1.2.2.2.1) (sl := A.1.2.2.2.2.1) (ap := A.1.2.2.2.2.2.1) (ka := A.1.2.2.2.2.2.2.1) (a := A.2.1.1) (SL := SLW ca A v.2.2.2.2.2.2.1 v.2.2.2.2.2.2.2) (g := v.2.1) (np := v.2.2.1) (n := v.2.2.2.1) (rf := v.2.2.2.2.1) (S := v.1) (h1 (v.2.2.2.2.2.1 (π (v.2.2.2.1 - 1))))
  have hp1 := XW_pick (xo := A.1.1) (h := A.1.2.1) (hp := A.1.2.2.1) (hh := A.1.2.2.2.1) (sl := A.1.2.2.2.2.1) (ap := A.1.2.2.2.2.2.1) (ka := A.1.2.2.2.2.2.2.1) (a := A.2.1.1) (SL := SLW ca A v.2.2.2.2.2.2.1 v.2.2.2.2.2.2.2) (g := v.2.1) (np := v.2.2.1) (n := v.2.2.2.1 - 1) (rf := v.2.2.2.2.1) (S := v.2.2.2.2.2.1 (π (v.2.2.2.1 - 1))) (h1 (v.2.2.2.2.2.1 (π (v.2.2.2.1 - 1))))
  rw [updT_self] at hp0 hp1
  have c4 := (c_X4_undo_ok l G ca A.1.1 A.1.2.2.1 A.1.2.2.2.2.1 A.1.2.2.2.1 A.1.2.2.2.2.2.2.1 v.2.2.2.1 v.2.2.2.2.1 A.1.2.1 A.2.1.1 v.1 (A.2.1.2.1 (π (v.2.2.2.1 - 1))) (A.2.2.1.1 (π (v.2.2.2.1 - 1))) (v.2.2.2.2.2.1 (π (v.2.2.2.1 - 1))) (paT ca A.1.2.2.1 A.1.2.2.2.2.2.1 (v.2.1, nI v.2.2.1) ++ (O ++ SLW ca A v.2.2.2.2.2.2.1 v.2.2.2.2.2.2.2)) n0 n6 u2).toS tL tM
  refine ⟨(v.2.2.2.2.2.1 (π (v.2.2.2.1 - 1)), v.2.1, v.2.2.1, v.2.2.2.1 - 1, v.2.2.2.2), u3, ⟨r1, rfl, ⟨π, u4⟩, r3, r4⟩, ?_⟩
  exact (c4.frame (hp0.trans perm_u) (hp1.trans perm_u)).room (by decide) (by decide) (by decide) (by decide)
theorem k_save_out (x : Int32) (hx : x < 0 ∨ nI 2 ≤ x) : KO l G ca tL tM A v v yX4_save wsX4_save [.int x] (-2) := by
  obtain ⟨O, hO⟩ := XV_slot ca A v (k := 0) (by omega)
  have hp := hO v.2.2.2.2.2.2.1 (v.2.2.2.2.2.2.2 0)
  rw [updT_self] at hp
  exact (((c_X4_save_out l G ca _ _ _ _ _ _ _ _ _ _ _ _ _ _ O x hx).toS tL tM).frame hp hp).room (by decide) (by decide) (by decide) (by decide)
theorem k_restore_out (x : Int32) (hx : x < 0 ∨ nI 2 ≤ x) : KO l G ca tL tM A v v yX4_restore wsX4_restore [.int x] (-2) := by
  obtain ⟨O, hO⟩ := XV_slot ca A v (k := 0) (by omega)
  have hp := hO v.2.2.2.2.2.2.1 (v.2.2.2.2.2.2.2 0)
  rw [updT_self] at hp
  exact (((c_X4_restore_out l G ca _ _ _ _ _ _ _ _ _ _ _ _ _ _ O x hx).toS tL tM).frame hp hp).room (by decide) (by decide) (by decide) (by decide)
theorem k_save (hR : Ab A v n hs u) {k : Nat} (hk : k < 2) : ∃ v' : VV, v'.1 = v.1 ∧ Ab A v' n hs (updU u k v.1) ∧ KO l G ca tL tM A v v' yX4_save wsX4_save [.int (nI k)] (s_dy v.1) := by
  obtain ⟨r1, r2, r3, r4, hA⟩ := hR
  obtain ⟨O, hO⟩ := XV_slot ca A v hk
  have hp := hO v.2.2.2.2.2.2.1 (v.2.2.2.2.2.2.2 k)
  rw [updT_self] at hp
  refine ⟨(v.1, v.2.1, v.2.2.1, v.2.2.2.1, v.2.2.2.2.1, v.2.2.2.2.2.1, upd v.2.2.2.2.2.2.1 k 1, updT v.2.2.2.2.2.2.2 k v.1), rfl, ⟨r1, r2, r3, r4.save v.1 k, hA⟩, ?_⟩
  exact (((c_X4_save_ok l G ca _ _ _ _ _ _ _ _ _ _ _ _ _ _ O k hk (hA k hk)).toS tL tM).frame hp (hO _ _)).room (by decide) (by decide) (by decide) (by decide)
theorem k_restore0 (hR : Ab A v n hs u) {k : Nat} (hk : k < 2) (hu : u k = none) : KO l G ca tL tM A v v yX4_restore wsX4_restore [.int (nI k)] (-5) := by
  have c := (hR.2.2.2.1 k hk).1 hu
  obtain ⟨O, hO⟩ := XV_slot ca A v hk
  have hp := hO v.2.2.2.2.2.2.1 (v.2.2.2.2.2.2.2 k)
  rw [updT_self] at hp
  exact (((c_X4_restore_none l G ca _ _ _ _ _ _ _ _ _ _ _ _ _ _ O k hk c).toS tL tM).frame hp hp).room (by decide) (by decide) (by decide) (by decide)
theorem k_restore (hR : Ab A v n hs u) {k : Nat} (hk : k < 2) {X : SS} (hu : u k = some X) : ∃ v' : VV, v'.1 = X ∧ Ab A v' (recN n) (consS v.1 hs) u ∧ KO l G ca tL tM A v v' yX4_restore wsX4_restore [.int (nI k)] (s_dy X) := by
  obtain ⟨r1, rfl, ⟨π, r2⟩, r4, hA⟩ := hR
  obtain ⟨c, rfl⟩ := (r4 k hk).2 X hu
  obtain ⟨j0, π', hj, hr, hH⟩ := r2.rec v.1
  obtain ⟨O, h1, h2⟩ := sts_pick ca A.2.1.2.1 A.2.2.1.1 v.2.2.2.2.2.1 6 j0 hj
  obtain ⟨O2, h3, -⟩ := sts_pick ca A.2.1.2.2 A.2.2.1.2 v.2.2.2.2.2.2.2 2 k hk
  have h3 := h3 (v.2.2.2.2.2.2.2 k)
  rw [updT_self] at h3
  have hs0 := h1 (v.2.2.2.2.2.1 j0)
  rw [updT_self] at hs0
  have hp0 : (XV ca A v).Perm _ := perm_r (a := xoT A.1.1 A.1.2.1 A.1.2.2.1 A.1.2.2.2.1 A.1.2.2.2.2.1) (b := paT ca A.1.2.2.1 A.1.2.2.2.2.2.1 (v.2.1, nI v.2.2.1)) (c := hiT ca A.1.2.2.2.1 A.1.2.2.2.2.2.2.1 (nI v.2.2.2.1) v.2.2.2.2.1) (d := stT ca A.1.2.1 A.2.1.1 v.1) (f := slT ca A.1.2.2.2.2.1 A.1.2.2.2.2.2.2.2.1 A.1.2.2.2.2.2.2.2.2 A.2.2.2 v.2.2.2.2.2.2.1) hs0 h3
  have hp1 : (XV ca A (v.2.2.2.2.2.2.2 k, v.2.1, v.2.2.1, recN v.2.2.2.1, recR v.2.2.2.1 v.2.2.2.2.1, updT v.2.2.2.2.2.1 j0 v.1, v.2.2.2.2.2.2)).Perm _ := perm_r (a := xoT A.1.1 A.1.2.1 A.1.2.2.1 A.1.2.2.2.1 A.1.2.2.2.2.1) (b := paT ca A.1.2.2.1 A.1.2.2.2.2.2.1 (v.2.1, nI v.2.2.1)) (c := hiT ca A.1.2.2.2.1 A.1.2.2.2.2.2.2.1 (nI (recN v.2.2.2.1)) (recR v.2.2.2.1 v.2.2.2.2.1)) (d := stT ca A.1.2.1 A.2.1.1 (v.2.2.2.2.2.2.2 k)) (f := slT ca A.1.2.2.2.2.1 A.1.2.2.2.2.2.2.2.1 A.1.2.2.2.2.2.2.2.2 A.2.2.2 v.2.2.2.2.2.2.1) (h1 v.1) h3
  have hob : ∀ i, i < 6 → ∃ (v1 x : Nat) (y : List Value), v.2.2.2.2.1 i = some v1 ∧ (hiT ca A.1.2.2.2.1 A.1.2.2.2.2.2.2.1 (nI v.2.2.2.1) v.2.2.2.2.1 ++ (stT ca (A.2.1.2.1 j0) (A.2.2.1.1 j0) (v.2.2.2.2.2.1 j0) ++ (stT ca A.1.2.1 A.2.1.1 v.1 ++ (stT ca (A.2.1.2.2 k) (A.2.2.1.2 k) (v.2.2.2.2.2.2.2 k) ++ O))))[x]? = some (v1, .inr (3, y)) := by
    intro i hi
    have e := r2.2.2.2.1 i hi
    by_cases c : π i = j0
    · obtain ⟨x, hx⟩ := at_mem (W := hiT ca A.1.2.2.2.1 A.1.2.2.2.2.2.2.1 (nI v.2.2.2.1) v.2.2.2.2.1 ++ (stT ca (A.2.1.2.1 j0) (A.2.2.1.1 j0) (v.2.2.2.2.2.1 j0) ++ (stT ca A.1.2.1 A.2.1.1 v.1 ++ (stT ca (A.2.1.2.2 k) (A.2.2.1.2 k) (v.2.2.2.2.2.2.2 k) ++ O)))) (List.mem_append_right _ (List.mem_append_left _ (List.mem_cons_self ..)))
      exact ⟨A.2.1.2.1 j0, x, _, by rw [e, c], hx⟩
    · obtain ⟨y, hy⟩ := h2 (π i) (r2.2.1 i hi) c
      obtain ⟨x, hx⟩ := at_mem (W := hiT ca A.1.2.2.2.1 A.1.2.2.2.2.2.2.1 (nI v.2.2.2.1) v.2.2.2.2.1 ++ (stT ca (A.2.1.2.1 j0) (A.2.2.1.1 j0) (v.2.2.2.2.2.1 j0) ++ (stT ca A.1.2.1 A.2.1.1 v.1 ++ (stT ca (A.2.1.2.2 k) (A.2.2.1.2 k) (v.2.2.2.2.2.2.2 k) ++ O)))) (List.mem_append_right _ (List.mem_append_right _ (List.mem_append_right _ (List.mem_append_right _ hy))))
      exact ⟨A.2.1.2.1 (π i), x, y, e, hx⟩
  have c4 := (c_X4_restore_ok l G ca A.1.1 A.1.2.2.1 A.1.2.2.2.2.1 A.1.2.2.2.2.2.2.2.1 A.1.2.2.2.2.2.2.2.2 A.2.2.2 v.2.2.2.2.2.2.1 A.1.2.2.2.1 A.1.2.2.2.2.2.2.1 v.2.2.2.1 v.2.2.2.2.1 (A.2.1.2.1 j0) (A.2.2.1.1 j0) (v.2.2.2.2.2.1 j0) A.1.2.1 A.2.1.1 v.1 (A.2.1.2.2 k) (A.2.2.1.2 k) (v.2.2.2.2.2.2.2 k) O (paT ca A.1.2.2.1 A.1.2.2.2.2.2.1 (v.2.1, nI v.2.2.1) ++ O2) k r2.1 hr hob hk c (hA k hk)).toS tL tM
  refine ⟨(v.2.2.2.2.2.2.2 k, v.2.1, v.2.2.1, recN v.2.2.2.1, recR v.2.2.2.1 v.2.2.2.2.1, updT v.2.2.2.2.2.1 j0 v.1, v.2.2.2.2.2.2), rfl, ⟨r1, rfl, ⟨π', hH⟩, r4, hA⟩, ?_⟩
  exact (c4.frame hp0 hp1).room (by decide) (by decide) (by decide) (by decide)
end OPS
