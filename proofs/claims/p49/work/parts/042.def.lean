/-! the class's state, and what its methods make of it -/
abbrev NS : Type := Nat → Nat → Int32
def up2 (ν : NS) (c : Nat) (f : Nat → Int32) : NS := fun j => if j = c then f else ν j
def clF (T : Nat → ClassId) (a0 a1 a2 a3 n : Nat) (v o h : Nat → Int32) : List va_W := [[(a0, .inr (0, [.ref a1, .ref a2, .ref a3]))], [(a1, .inl (T 0, n, .inl v))], [(a2, .inl (T 0, n, .inl o))], [(a3, .inl (T 0, n, .inl h))]]
def stF (T : Nat → ClassId) (ad : Nat → Nat) (ν : NS) : List va_W := [[((ad 0), .inr (3, [.ref (ad 1), .ref (ad 5), .ref (ad 9), .ref (ad 13), .ref (ad 14), .ref (ad 15), .ref (ad 16), .ref (ad 17), .int (ν 15 0), .int (ν 15 1)]))], [((ad 1), .inr (0, [.ref (ad 2), .ref (ad 3), .ref (ad 4)]))], [((ad 2), .inl (T 0, 32, .inl (ν 0)))], [((ad 3), .inl (T 0, 32, .inl (ν 1)))], [((ad 4), .inl (T 0, 32, .inl (ν 2)))], [((ad 5), .inr (0, [.ref (ad 6), .ref (ad 7), .ref (ad 8)]))], [((ad 6), .inl (T 0, 32, .inl (ν 3)))], [((ad 7), .inl (T 0, 32, .inl (ν 4)))], [((ad 8), .inl (T 0, 32, .inl (ν 5)))], [((ad 9), .inr (0, [.ref (ad 10), .ref (ad 11), .ref (ad 12)]))], [((ad 10), .inl (T 0, 16, .inl (ν 6)))], [((ad 11), .inl (T 0, 16, .inl (ν 7)))], [((ad 12), .inl (T 0, 16, .inl (ν 8)))], [((ad 13), .inl (T 1, 8, .inl (bf (ν 9))))], [((ad 14), .inl (T 0, 4, .inl (ν 10)))], [((ad 15), .inl (T 1, 4, .inl (bf (ν 11))))], [((ad 16), .inl (T 0, 20, .inl (ν 12)))], [((ad 17), .inr (1, [.ref (ad 18), .int (ν 14 0), .int (ν 14 1)]))], [((ad 18), .inl (T 0, 32, .inl (ν 13)))]]
def stW (T : Nat → ClassId) (ad : Nat → Nat) (ν : NS) : va_W := (stF T ad ν).flatten
def blF (T : Nat → ClassId) (bd : Nat → Nat) (β : NS) : List va_W := [[((bd 0), .inr (0, [.ref (bd 1), .ref (bd 2), .ref (bd 3)]))], [((bd 1), .inl (T 0, 16, .inl (β 0)))], [((bd 2), .inl (T 0, 16, .inl (β 1)))], [((bd 3), .inl (T 0, 16, .inl (β 2)))]]
def blW (T : Nat → ClassId) (bd : Nat → Nat) (β : NS) : va_W := (blF T bd β).flatten
theorem stF_adr (T : Nat → ClassId) (ad : Nat → Nat) (μ ν : NS) : frAdr (stF T ad μ) (stF T ad ν) := rfl
theorem stW_adr (T : Nat → ClassId) (ad : Nat → Nat) (μ ν : NS) : (stW T ad μ).map Prod.fst = (stW T ad ν).map Prod.fst := rfl
theorem blW_adr (T : Nat → ClassId) (ad : Nat → Nat) (μ ν : NS) : (blW T ad μ).map Prod.fst = (blW T ad ν).map Prod.fst := rfl
def canH (ν : NS) (w : Nat) : Bool := ps (ν 1 w) && (bz (ν 9 (w / 4)) && !ps (ν 4 w))
def c_fetch (ν : NS) (w : Nat) : NS := if canH ν w then up2 (up2 (up2 (up2 ν 0 (upd (ν 0) w (ν 3 w))) 1 (upd (ν 1) w (ν 4 w))) 2 (upd (ν 2) w (ν 5 w))) 15 (upd (ν 15) 1 (ν 15 1 + nI 1)) else ν
def c_upd (ν : NS) (w : Nat) : NS := if bz (ν 9 (w / 4)) then up2 (up2 (up2 ν 3 (upd (ν 3) w (ν 0 w))) 4 (upd (ν 4) w (ν 1 w))) 5 (upd (ν 5) w (ν 2 w)) else ν
def c_put (ν : NS) (w : Nat) (x so sh : Int32) : NS := c_upd (up2 (up2 (up2 ν 0 (upd (ν 0) w x)) 1 (upd (ν 1) w so)) 2 (upd (ν 2) w (hp so sh))) w
def c_take1 (μ : NS) (k w : Nat) : NS := up2 (up2 (up2 μ 6 (upd (μ 6) k (μ 0 w))) 7 (upd (μ 7) k (μ 1 w))) 8 (upd (μ 8) k (hp (μ 1 w) (μ 2 w)))
def c_take (ν : NS) (k w : Nat) : NS := c_take1 (c_fetch ν w) k w
def c_clean (ν : NS) (k : Nat) (x : Int32) : NS := up2 (up2 (up2 ν 0 (upd (ν 0) k x)) 1 (upd (ν 1) k (-6))) 2 (upd (ν 2) k (-6))
def c_cleanR (ν : NS) (k : Nat) (x : Int32) : NS := up2 (up2 (up2 ν 6 (upd (ν 6) k x)) 7 (upd (ν 7) k (-6))) 8 (upd (ν 8) k (-6))
def c_clp (ν : NS) (k : Nat) : NS := if ps (ν 7 k) then c_cleanR ν k (nI 0) else ν
def c_log (ν : NS) (t r k : Nat) : NS := up2 (up2 ν 13 (rowsAdd (ν 13) (nI t) (nI r) (ν 7 k) (ν 10 t))) 14 (upd (upd (ν 14) 0 (nI (min (tn (ν 14 0) + 1) 8))) 1 (ν 14 1 + nI 1))
def u_flt (ν : NS) (t r a b : Nat) : NS := if ν 10 t = nI 2 then c_clp (c_clp (c_log ν t r (t * 4 + r)) (t * 4 + a)) (t * 4 + b) else if ν 10 t = 0 then up2 (c_log ν t r (t * 4 + r)) 11 (upd (ν 11) t (bI true)) else c_log ν t r (t * 4 + r)
def u_st (ν : NS) (t a b : Nat) : NS := if ps (ν 7 (t * 4 + a)) then u_flt ν t a a b else if ps (ν 7 (t * 4 + b)) then u_flt ν t b a b else ν
def u_ok (ν : NS) (t a b : Nat) : Bool := (!ps (ν 7 (t * 4 + a)) && !ps (ν 7 (t * 4 + b))) || decide (ν 10 t = nI 2)
/-- a number that is known small -/
def WH (x : Int32) (n : Nat) : Prop := x = nI (tn x) ∧ tn x ≤ n
def c_inj (ν : NS) (w : Nat) : NS := up2 (up2 (up2 (up2 ν 1 (upd (ν 1) w (nI (tn (ν 15 0))))) 2 (upd (ν 2) w (nI 0))) 12 (upd (ν 12) (tn (ν 15 0)) (nI w))) 15 (upd (ν 15) 0 (nI (tn (ν 15 0) + 1)))
def r_inj (ν : NS) (x : Int32) : Int32 := if iN x 32 then (if 20 ≤ tn (ν 15 0) then -4 else nI (tn (ν 15 0))) else -1
def s_inj (ν : NS) (x : Int32) : NS := if iN x 32 then (if 20 ≤ tn (ν 15 0) then ν else c_inj ν (tn x)) else ν
def fetN (ν : NS) (f : Nat) : Nat → NS
  | 0 => ν
  | i + 1 => c_fetch (fetN ν f i) (f + i)
def blN (ν : NS) (β : NS) (f : Nat) : Nat → NS
  | 0 => β
  | i + 1 => up2 (up2 (up2 (blN ν β f i) 0 (upd (blN ν β f i 0) i (fetN ν f (i + 1) 0 (f + i)))) 1 (upd (blN ν β f i 1) i (fetN ν f (i + 1) 1 (f + i)))) 2 (upd (blN ν β f i 2) i (fetN ν f (i + 1) 2 (f + i)))
def putN (μ : NS) (β : NS) (t : Nat) : Nat → NS
  | 0 => μ
  | i + 1 => c_put (putN μ β t i) (t + i) (β 0 i) (β 1 i) (β 2 i)
def cpOk (x y c : Int32) : Bool := iN x 32 && (iN y 32 && (iB c && (iN (nI (tn x + tn c - 1)) 32 && iN (nI (tn y + tn c - 1)) 32)))
def s_cpy (ν β : NS) (x y c : Int32) : NS := if cpOk x y c then putN (fetN ν (tn x) (tn c)) (blN ν β (tn x) (tn c)) (tn y) (tn c) else ν
def b_cpy (ν β : NS) (x y c : Int32) : NS := if cpOk x y c then blN ν β (tn x) (tn c) else β
def r_cpy (ν β : NS) (x y c : Int32) : Int32 := if iN x 32 && iN y 32 then (if iB c then (if iN (nI (tn x + tn c - 1)) 32 && iN (nI (tn y + tn c - 1)) 32 then nI (cntP (s_cpy ν β x y c 1) (tn y) (tn y + tn c - tn y)) else -1) else -2) else -1
def filN (ν : NS) (w : Nat) (x : Int32) : Nat → NS
  | 0 => ν
  | i + 1 => c_upd (c_clean (filN ν w x i) (w + i) x) (w + i)
def filOk (x c y : Int32) : Bool := iN x 32 && (iB c && (iN y 65536 && iN (nI (tn x + tn c - 1)) 32))
def s_fil (ν : NS) (x c y : Int32) : NS := if filOk x c y then filN ν (tn x) (nI (tn y)) (tn c) else ν
def r_fil (ν : NS) (x c y : Int32) : Int32 := if iN x 32 then (if iB c && iN y 65536 then (if iN (nI (tn x + tn c - 1)) 32 then nI (cntP (ν 1) (tn x) (tn x + tn c - tn x)) else -1) else -2) else -1
def mirS (ν : NS) (p : Nat) (b : Bool) : NS := c_upd (c_upd (c_upd (c_upd (up2 ν 9 (upd (ν 9) p (bI b))) (p * 4 + 0)) (p * 4 + 1)) (p * 4 + 2)) (p * 4 + 3)
def cntB (f : Nat → Int32) (m : Nat) : Nat := cnt (fun k => bz (f k)) m
def s_mir (ν : NS) (x : Int32) (b : Bool) : NS := if iN x 8 then mirS ν (tn x) b else ν
def r_mir (ν : NS) (x : Int32) (b : Bool) : Int32 := if iN x 8 then nI (cntB (mirS ν (tn x) b 9) 8) else -1
def scrS (ν : NS) (p : Nat) : NS := c_fetch (c_fetch (c_fetch (c_fetch ν (p * 4 + 0)) (p * 4 + 1)) (p * 4 + 2)) (p * 4 + 3)
def s_scr (ν : NS) (x : Int32) : NS := if iN x 8 then scrS ν (tn x) else ν
def r_scr (ν : NS) (x : Int32) : Int32 := if iN x 8 then scrS ν (tn x) 15 1 - ν 15 1 else -1
def s_mod (ν : NS) (t m : Int32) : NS := if iN t 4 && iN m 3 then up2 ν 10 (upd (ν 10) (tn t) (nI (tn m))) else ν
def r_mod (ν : NS) (t m : Int32) : Int32 := if iN t 4 then (if iN m 3 then ν 10 (tn t) else -2) else -1
def resS (ν : NS) (t : Nat) : NS := up2 (c_cleanR (c_cleanR (c_cleanR (c_cleanR ν (t * 4 + 0) (nI 0)) (t * 4 + 1) (nI 0)) (t * 4 + 2) (nI 0)) (t * 4 + 3) (nI 0)) 11 (upd (ν 11) t (bI false))
def s_res (ν : NS) (t : Int32) : NS := if iN t 4 then resS ν (tn t) else ν
def r_res (ν : NS) (t : Int32) : Int32 := if iN t 4 then nI (cntP (ν 7) (tn t * 4 + 0) (tn t * 4 + 4 - (tn t * 4 + 0))) else -1
def stp (ν : NS) (t : Int32) : Bool := bz (ν 11 (tn t))
def s_giv (ν : NS) (t r x : Int32) : NS := if iN t 4 && (iN r 4 && (iN x 65536 && !stp ν t)) then c_cleanR ν (tn t * 4 + tn r) (nI (tn x)) else ν
def r_giv (ν : NS) (t r x : Int32) : Int32 := if iN t 4 && iN r 4 then (if iN x 65536 then (if stp ν t then -5 else ν 6 (tn t * 4 + tn r)) else -2) else -1
def s_ld (ν : NS) (t r w : Int32) : NS := if iN t 4 && (iN r 4 && (iN w 32 && !stp ν t)) then c_take ν (tn t * 4 + tn r) (tn w) else ν
def r_ld (ν : NS) (t r w : Int32) : Int32 := if iN t 4 && (iN r 4 && iN w 32) then (if stp ν t then -5 else c_fetch ν (tn w) 0 (tn w)) else -1
def byt (x : Int32) (p : Nat) : Int32 := (x >>> ((nI (8 * p)) &&& 31)) &&& nI 255
def ldpS (ν : NS) (k w p : Nat) : NS := up2 (c_take ν k w) 6 (upd (c_take ν k w 6) k (byt (c_fetch ν w 0 w) p))
def s_ldb (ν : NS) (t r w p : Int32) : NS := if iN t 4 && (iN r 4 && (iN w 32 && (iN p 2 && !stp ν t))) then ldpS ν (tn t * 4 + tn r) (tn w) (tn p) else ν
def r_ldb (ν : NS) (t r w p : Int32) : Int32 := if iN t 4 && (iN r 4 && iN w 32) then (if iN p 2 then (if stp ν t then -5 else byt (c_fetch ν (tn w) 0 (tn w)) (tn p)) else -2) else -1
def stoS (ν : NS) (k w : Nat) : NS := c_put ν w (ν 6 k) (ν 7 k) (ν 8 k)
def s_sto (ν : NS) (t r w : Int32) : NS := if iN t 4 && (iN r 4 && (iN w 32 && !stp ν t)) then stoS ν (tn t * 4 + tn r) (tn w) else ν
def r_sto (ν : NS) (t r w : Int32) : Int32 := if iN t 4 && (iN r 4 && iN w 32) then (if stp ν t then -5 else bI (ps (stoS ν (tn t * 4 + tn r) (tn w) 1 (tn w)))) else -1
/-- the word with one byte anew: x the word, y the register -/
def byP (x y : Int32) (p : Nat) : Int32 := (x &&& (nI 255 <<< (nI (8 * (1 - p)) &&& 31))) ||| (byt y 0 <<< (nI (8 * p) &&& 31))
def stbS1 (μ : NS) (k w p : Nat) : NS := up2 μ 0 (upd (μ 0) w (byP (μ 0 w) (μ 6 k) p))
def stbS2 (μ : NS) (k w p : Nat) : NS := if ps (μ 7 k) then up2 (up2 (stbS1 μ k w p) 1 (upd (μ 1) w (μ 7 k))) 2 (upd (μ 2) w (hp (μ 7 k) (μ 8 k))) else stbS1 μ k w p
def stbS (ν : NS) (k w p : Nat) : NS := c_upd (stbS2 (c_fetch ν w) k w p) w
def s_stb (ν : NS) (t r w p : Int32) : NS := if iN t 4 && (iN r 4 && (iN w 32 && (iN p 2 && !stp ν t))) then stbS ν (tn t * 4 + tn r) (tn w) (tn p) else ν
def r_stb (ν : NS) (t r w p : Int32) : Int32 := if iN t 4 && (iN r 4 && iN w 32) then (if iN p 2 then (if stp ν t then -5 else bI (ps (stbS ν (tn t * 4 + tn r) (tn w) (tn p) 1 (tn w)))) else -2) else -1
def movS (ν : NS) (k j : Nat) : NS := up2 (up2 (up2 ν 6 (upd (ν 6) k (ν 6 j))) 7 (upd (ν 7) k (ν 7 j))) 8 (upd (ν 8) k (hp (ν 7 j) (ν 8 j)))
def s_mov (ν : NS) (t a b : Int32) : NS := if iN t 4 && (iN a 4 && (iN b 4 && !stp ν t)) then movS ν (tn t * 4 + tn a) (tn t * 4 + tn b) else ν
def r_mov (ν : NS) (t a b : Int32) : Int32 := if iN t 4 && (iN a 4 && iN b 4) then (if stp ν t then -5 else ν 6 (tn t * 4 + tn b)) else -1
def calq (q : Nat) (x y : Int32) : Int32 := if q = 0 then (x + y) &&& nI 65535 else if q = 1 then (x - y) &&& nI 65535 else if q = 2 then x ^^^ y else (x * y) &&& nI 65535
/-- the state behind the use, if there is one -/
def cmpU (ν : NS) (t q a b : Nat) : NS := if q = 2 ∧ a = b then ν else u_st ν t a b
def cmpD (ν : NS) (t q a b : Nat) : Bool := decide (q = 2 ∧ a = b) || u_ok ν t a b
def cmpV (ν : NS) (t q a b : Nat) : Int32 := calq q (cmpU ν t q a b 6 (t * 4 + a)) (cmpU ν t q a b 6 (t * 4 + b))
def cmpOk (t q c a b : Int32) : Bool := iN t 4 && (iN c 4 && (iN a 4 && (iN b 4 && iN q 4)))
def s_cmp (ν : NS) (t q c a b : Int32) : NS := if cmpOk t q c a b && !stp ν t then (if cmpD ν (tn t) (tn q) (tn a) (tn b) then c_cleanR (cmpU ν (tn t) (tn q) (tn a) (tn b)) (tn t * 4 + tn c) (cmpV ν (tn t) (tn q) (tn a) (tn b)) else cmpU ν (tn t) (tn q) (tn a) (tn b)) else ν
def r_cmp (ν : NS) (t q c a b : Int32) : Int32 := if iN t 4 && (iN c 4 && (iN a 4 && iN b 4)) then (if iN q 4 then (if stp ν t then -5 else if cmpD ν (tn t) (tn q) (tn a) (tn b) then cmpV ν (tn t) (tn q) (tn a) (tn b) else -7) else -2) else -1
def ladW (ν : NS) (t a : Nat) : Nat := tn (u_st ν t a a 6 (t * 4 + a)) % 32
def s_lad (ν : NS) (t c a : Int32) : NS := if iN t 4 && (iN c 4 && (iN a 4 && !stp ν t)) then (if u_ok ν (tn t) (tn a) (tn a) then c_take (u_st ν (tn t) (tn a) (tn a)) (tn t * 4 + tn c) (ladW ν (tn t) (tn a)) else u_st ν (tn t) (tn a) (tn a)) else ν
def r_lad (ν : NS) (t c a : Int32) : Int32 := if iN t 4 && (iN c 4 && iN a 4) then (if stp ν t then -5 else if u_ok ν (tn t) (tn a) (tn a) then c_fetch (u_st ν (tn t) (tn a) (tn a)) (ladW ν (tn t) (tn a)) 0 (ladW ν (tn t) (tn a)) else -7) else -1
def s_out (ν : NS) (t a : Int32) : NS := if iN t 4 && (iN a 4 && !stp ν t) then u_st ν (tn t) (tn a) (tn a) else ν
def r_out (ν : NS) (t a : Int32) : Int32 := if iN t 4 && iN a 4 then (if stp ν t then -5 else if u_ok ν (tn t) (tn a) (tn a) then u_st ν (tn t) (tn a) (tn a) 6 (tn t * 4 + tn a) else -7) else -1
def cntH (ν : NS) (i m : Nat) : Nat := cnt (fun k => canH ν (i + k)) m
def carr (ν : NS) (x : Int32) : Nat := cntE (ν 1) x 32 + cntE (ν 7) x 16
theorem cmpU_t {ν : NS} {t q a b : Nat} (h : q = 2 ∧ a = b) : cmpU ν t q a b = ν := if_pos h
theorem cmpU_f {ν : NS} {t q a b : Nat} (h : ¬ (q = 2 ∧ a = b)) : cmpU ν t q a b = u_st ν t a b := if_neg h
theorem cmpD_t {ν : NS} {t q a b : Nat} (h : q = 2 ∧ a = b) : cmpD ν t q a b = true := by unfold cmpD; rw [decide_eq_true h, Bool.true_or]
theorem cmpD_f {ν : NS} {t q a b : Nat} (h : ¬ (q = 2 ∧ a = b)) : cmpD ν t q a b = u_ok ν t a b := by unfold cmpD; rw [decide_eq_false h, Bool.false_or]
