/-! ===== what the calls do, as functions of the state; both classes are held against them ===== -/
def b2i (b : Bool) : Int := if b = true then 1 else 0
theorem b2i_01 (b : Bool) : b2i b = 0 ∨ b2i b = 1 := by cases b <;> simp [b2i]
theorem b2i_rg (b : Bool) : Rg (b2i b) := by cases b <;> decide
theorem b2i_t : b2i true = 1 := rfl
theorem b2i_f : b2i false = 0 := rfl
def exB (p : Nat → Bool) : Nat → Bool
  | 0 => false
  | n + 1 => exB p n || p n
/-- a ship comes behind its line -/
def jn (S : SS) (s : Int) : SS := u2 (u2 S 32 (30 * S 9 s + S 31 (S 9 s)) s) 31 (S 9 s) (S 31 (S 9 s) + 1)
def stB (S : SS) (c : Int) : Nat → SS
  | 0 => S
  | n + 1 => if S 10 (S 28 (8 * c + n)) ≤ S 0 0 then jn (stB S c n) (S 28 (8 * c + n)) else stB S c n
def stP (S : SS) (c : Int) : Nat → SS
  | 0 => S
  | n + 1 => jn (stP S c n) (S 30 (30 * c + n))
def stC (S : SS) (c : Int) : SS := if S 26 c = S 0 0 then stP (stB S c (S 27 c).toNat) c (S 29 c).toNat else S
def sts (S : SS) : Nat → SS
  | 0 => S
  | n + 1 => stC (sts S n) n
def nx (S : SS) (w : Int) : Nat → Int
  | 0 => -4
  | n + 1 => if (S 25 n = w ∧ S 0 0 < S 26 n) ∧ (nx S w n < 0 ∨ S 26 n < S 26 (nx S w n)) then n else nx S w n
def ltT (S : SS) (s c : Int) : SS := if c < 0 then u2 S 18 s 1 else u2 (u2 (u2 S 30 (30 * c + S 29 c) s) 29 c (S 29 c + 1)) 22 s c
def lt1 (S : SS) (s : Int) : SS :=
  if S 10 s = S 0 0 ∧ 0 ≤ S 22 s ∧ S 26 (S 22 s) < S 0 0 then
    (if S 2 0 = 1 then jn (u2 S 17 s 1) s else ltT (u2 S 17 s 1) s (nx S (S 9 s) (S 24 0).toNat))
  else S
def lts (S : SS) : Nat → SS
  | 0 => S
  | n + 1 => lt1 (lts S n) n
def agP (S : SS) (sec : Int) (n : Nat) : Bool := decide (S 15 n = sec ∧ 0 < S 21 n)
def isAgr (S : SS) (sec : Int) : Bool := exB (agP S sec) (S 8 0).toNat
def lowF (S : SS) : Nat → Nat
  | 0 => 0
  | n + 1 => if S 5 n = 0 then lowF S n else n + 1
def onUp (S : SS) (o : Int) : Nat → Nat → Bool
  | _, 0 => false
  | k, f + 1 => if S 5 k = 0 then (decide (0 < S 33 (2 * (k : Int) + o)) || onUp S o (k + 1) f) else false
def isOnc (S : SS) (sec : Nat) (o : Int) : Bool := onUp S o (lowF S sec) (8 - lowF S sec)
def hr (S : SS) : Int := S 0 0 / 60 % 24
def deep (S : SS) (sec : Int) : Int := S 4 sec + (if sec = 0 ∨ sec = 7 then S 6 (hr S) else 0)
def cause (S : SS) (s : Int) (sec : Nat) : Int :=
  if isAgr S sec = true then 0
  else if S 5 sec = 0 ∧ isOnc S sec (1 - S 9 s) = true then 1
  else if S 33 (2 * sec + S 9 s) = 3 then 2
  else if S 0 0 - S 35 (2 * sec + S 9 s) < S 1 0 then 3
  else if deep S sec < S 12 s then 4
  else if S 11 s ≠ 0 ∧ S 5 sec = 0 ∧ (S 7 (hr S) < 0 ∨ 6 < S 7 (hr S)) then 5 else -1
def ent (S : SS) (s sec : Int) : SS :=
  u2 (u2 (u2 (u2 (u2 S 34 (30 * (2 * sec + S 9 s) + S 33 (2 * sec + S 9 s)) s) 33 (2 * sec + S 9 s) (S 33 (2 * sec + S 9 s) + 1)) 35 (2 * sec + S 9 s) (S 0 0)) 15 s sec) 16 s (if S 13 s = 0 then S 3 sec else 2 * S 3 sec)
/-- the places b + 1 .. b + n of an array go one place ahead -/
def shf (S : SS) (k : Nat) (b : Int) : Nat → SS
  | 0 => S
  | n + 1 => u2 (shf S k b n) k (b + n) (shf S k b n k (b + n + 1))
def lvs (S : SS) (sec w : Int) : SS := shf (u2 S 33 (2 * sec + w) (S 33 (2 * sec + w) - 1)) 34 (30 * (2 * sec + w)) (S 33 (2 * sec + w) - 1).toNat
def wt (S : SS) (x : Int) : SS := u2 S 23 x (S 23 x + 1)
def goE (S : SS) (sec : Int) (s : Int) : SS := u2 (u2 (lvs S sec (S 9 s)) 15 s 8) 20 s (S 0 0)
def gos (S : SS) (s : Int) (sec : Nat) : Bool × SS :=
  if (sec : Int) = (if S 9 s = 0 then 7 else 0) then (true, goE S sec s)
  else if 0 ≤ cause S s (if S 9 s = 0 then sec + 1 else sec - 1) then (false, wt S (7 * s + cause S s (if S 9 s = 0 then sec + 1 else sec - 1)))
  else (true, ent (lvs S sec (S 9 s)) s (if S 9 s = 0 then (sec : Int) + 1 else (sec : Int) - 1))
def tk (S : SS) (s : Int) : SS := u2 S 16 s (S 16 s - (if 0 < S 16 s then 1 else 0))
/-- those in a section of a way: from the k-th on, f of them at most -/
def mvF (sec : Nat) (w : Int) : Nat → SS → Nat → Bool → SS
  | 0, S, _, _ => S
  | f + 1, S, k, stuck =>
    if (k : Int) < S 33 (2 * sec + w) then
      let s := S 34 (30 * (2 * sec + w) + k)
      if (stuck || decide (0 < S 21 s)) = true then mvF sec w f (wt S (7 * s)) (k + 1) true
      else if tk S s 16 s = 0 then
        (if k = 0 then mvF sec w f (gos (tk S s) s sec).2 (if (gos (tk S s) s sec).1 = true then 0 else 1) false
        else mvF sec w f (wt (tk S s) (7 * s + 6)) (k + 1) false)
      else mvF sec w f (tk S s) (k + 1) false
    else S
def mvs (S : SS) (sec : Nat) (w : Int) : SS := mvF sec w (S 33 (2 * sec + w)).toNat S 0 false
def qw (S : SS) (w : Int) : Nat → SS
  | 0 => S
  | n + 1 => wt (qw S w n) (7 * S 32 (30 * w + (n + 1)) + 6)
def cmI (S : SS) (w : Int) : SS :=
  let s := S 32 (30 * w)
  let sec : Nat := if w = 0 then 0 else 7
  let T := qw S w ((S 31 w).toNat - 1)
  if 0 ≤ cause S s sec then wt T (7 * s + cause S s sec)
  else ent (u2 (shf (u2 T 31 w (S 31 w - 1)) 32 (30 * w) (S 31 w - 1).toNat) 19 s (S 0 0)) s sec
def cm (S : SS) (w : Int) : SS := if S 31 w = 0 then S else cmI S w
def agd (S : SS) : Nat → SS
  | 0 => S
  | n + 1 => u2 (agd S n) 21 n (S 21 n - (if 0 < S 21 n then 1 else 0))
def mvN (S : SS) : Nat → SS
  | 0 => S
  | n + 1 => mvs (mvN S n) (7 - n) 0
def mvS (S : SS) : Nat → SS
  | 0 => S
  | n + 1 => mvs (mvS S n) n 1
def mt1 (S : SS) : SS := sts S (S 24 0).toNat
def mt2 (S : SS) : SS := lts (mt1 S) (S 8 0).toNat
def mt3 (S : SS) : SS := mvN (mt2 S) 8
def mt4 (S : SS) : SS := mvS (mt3 S) 8
def mt5 (S : SS) : SS := cm (mt4 S) 0
def mt6 (S : SS) : SS := cm (mt5 S) 1
def mt (S : SS) : SS := u2 (agd (mt6 S) (S 8 0).toNat) 0 0 (S 0 0 + 1)
def mts (S : SS) : Nat → SS
  | 0 => S
  | n + 1 => mt (mts S n)
def due0 (t : Int) : Int := if t ≤ 5000 then 3 * t else if t ≤ 20000 then 15000 + 2 * (t - 5000) else 45000 + t - 20000
def due1 (t late : Int) : Int := due0 t + (if late = 0 then 0 else due0 t / 10)
def dues (S : SS) (s : Int) : Int := due1 (S 14 s) (S 17 s) - (if Int32.ofInt (S 23 (7 * s)) ≤ Int32.ofInt 60 then 0 else due1 (S 14 s) (S 17 s) / 20)
def wsum (S : SS) (s c : Int) : Nat → Int
  | 0 => 0
  | n + 1 => wsum S s c n + (if c < 0 ∨ c = n then S 23 (7 * s + n) else 0)
def cnt (p : Nat → Bool) : Nat → Int
  | 0 => 0
  | n + 1 => cnt p n + b2i (p n)
def sev1 (S : SS) (s : Int) : Int := b2i (decide (0 < S 33 (2 * s))) + b2i (decide (0 < S 33 (2 * s + 1)))
def sev (S : SS) : Nat → Int
  | 0 => 0
  | n + 1 => if S 5 n = 0 ∧ sev S n < sev1 S n then sev1 S n else sev S n
/-- all numbers lie where they should: of every place of every array -/
def bsh (S : SS) (s : Int) : Prop := (S 9 s = 0 ∨ S 9 s = 1) ∧ (0 ≤ S 10 s ∧ S 10 s ≤ 9999) ∧ (S 11 s = 0 ∨ S 11 s = 1) ∧ (0 ≤ S 12 s ∧ S 12 s ≤ 45) ∧ (S 13 s = 0 ∨ S 13 s = 1) ∧ (0 ≤ S 14 s ∧ S 14 s ≤ 200000) ∧ (-1 ≤ S 15 s ∧ S 15 s ≤ 8) ∧ (0 ≤ S 16 s ∧ S 16 s ≤ 120) ∧ (S 17 s = 0 ∨ S 17 s = 1) ∧ (S 18 s = 0 ∨ S 18 s = 1) ∧ (0 ≤ S 21 s ∧ S 21 s ≤ 500) ∧ (-4 ≤ S 22 s ∧ S 22 s < 12)
def bcv (S : SS) (c : Int) : Prop := (S 25 c = 0 ∨ S 25 c = 1) ∧ (0 ≤ S 26 c ∧ S 26 c ≤ 9999) ∧ (0 ≤ S 27 c ∧ S 27 c ≤ 8) ∧ (0 ≤ S 29 c ∧ S 29 c ≤ 30)
def bsc (S : SS) (i : Int) : Prop := (1 ≤ S 3 i ∧ S 3 i ≤ 60) ∧ (1 ≤ S 4 i ∧ S 4 i ≤ 40) ∧ (S 5 i = 0 ∨ S 5 i = 1)
def bsm (S : SS) : Prop := (0 ≤ S 0 0 ∧ S 0 0 ≤ 10000) ∧ (0 ≤ S 1 0 ∧ S 1 0 ≤ 60) ∧ (S 2 0 = 0 ∨ S 2 0 = 1) ∧ (0 ≤ S 8 0 ∧ S 8 0 ≤ 30) ∧ (0 ≤ S 24 0 ∧ S 24 0 ≤ 12)
def BB (S : SS) : Prop := bsm S ∧ (∀ s, 0 ≤ s → s < 30 → bsh S s) ∧ (∀ c, 0 ≤ c → c < 12 → bcv S c) ∧ (∀ i, 0 ≤ i → i < 8 → bsc S i) ∧ (∀ h, 0 ≤ h → h < 24 → (0 ≤ S 6 h ∧ S 6 h ≤ 9) ∧ -1 ≤ S 7 h ∧ S 7 h ≤ 12) ∧ (∀ w, 0 ≤ w → w < 2 → 0 ≤ S 31 w ∧ S 31 w ≤ 30) ∧ (∀ a, 0 ≤ a → a < 16 → (0 ≤ S 33 a ∧ S 33 a ≤ 3) ∧ -1000 ≤ S 35 a ∧ S 35 a ≤ 10000) ∧ (∀ x, 0 ≤ x → x < 60 → 0 ≤ S 32 x ∧ S 32 x < 30) ∧ (∀ x, 0 ≤ x → x < 480 → 0 ≤ S 34 x ∧ S 34 x < 30) ∧ (∀ x, 0 ≤ x → x < 96 → 0 ≤ S 28 x ∧ S 28 x < 30) ∧ (∀ x, 0 ≤ x → x < 360 → 0 ≤ S 30 x ∧ S 30 x < 30)
theorem BB.m {S : SS} (h : BB S) : bsm S := h.1
theorem BB.sh {S : SS} (h : BB S) {s : Int} (h0 : 0 ≤ s) (h1 : s < 30) : bsh S s := h.2.1 s h0 h1
theorem BB.cv {S : SS} (h : BB S) {c : Int} (h0 : 0 ≤ c) (h1 : c < 12) : bcv S c := h.2.2.1 c h0 h1
theorem BB.sc {S : SS} (h : BB S) {i : Int} (h0 : 0 ≤ i) (h1 : i < 8) : bsc S i := h.2.2.2.1 i h0 h1
theorem BB.tw {S : SS} (h : BB S) {i : Int} (h0 : 0 ≤ i) (h1 : i < 24) : (0 ≤ S 6 i ∧ S 6 i ≤ 9) ∧ -1 ≤ S 7 i ∧ S 7 i ≤ 12 := h.2.2.2.2.1 i h0 h1
theorem BB.ln {S : SS} (h : BB S) {w : Int} (h0 : 0 ≤ w) (h1 : w < 2) : 0 ≤ S 31 w ∧ S 31 w ≤ 30 := h.2.2.2.2.2.1 w h0 h1
theorem BB.iM {S : SS} (h : BB S) {a : Int} (h0 : 0 ≤ a) (h1 : a < 16) : (0 ≤ S 33 a ∧ S 33 a ≤ 3) ∧ -1000 ≤ S 35 a ∧ S 35 a ≤ 10000 := h.2.2.2.2.2.2.1 a h0 h1
theorem BB.li {S : SS} (h : BB S) {x : Int} (h0 : 0 ≤ x) (h1 : x < 60) : 0 ≤ S 32 x ∧ S 32 x < 30 := h.2.2.2.2.2.2.2.1 x h0 h1
theorem BB.ins {S : SS} (h : BB S) {x : Int} (h0 : 0 ≤ x) (h1 : x < 480) : 0 ≤ S 34 x ∧ S 34 x < 30 := h.2.2.2.2.2.2.2.2.1 x h0 h1
theorem BB.bk {S : SS} (h : BB S) {x : Int} (h0 : 0 ≤ x) (h1 : x < 96) : 0 ≤ S 28 x ∧ S 28 x < 30 := h.2.2.2.2.2.2.2.2.2.1 x h0 h1
theorem BB.pt {S : SS} (h : BB S) {x : Int} (h0 : 0 ≤ x) (h1 : x < 360) : 0 ≤ S 30 x ∧ S 30 x < 30 := h.2.2.2.2.2.2.2.2.2.2 x h0 h1
section ENG4
variable {l : Launch} {D : va_G} {cA : Nat → ClassId} {A : Nat → Prop} {ad : Ad} {y : MethodName} {cc : ByteArray} {nL : Nat} {ret : Option FieldType} {R : Room} {Post : Pst} {cells slots : Nat} {lv : Lw} {V : Vw} {sz pc : Nat} {L : List (Option AV)} {st : List AV}
theorem CT.of2 {av : List AV} (L : List (Option AV)) (hy : plainName y.cls = true) (hn : av.length ≤ nL) (hL : av.map some ++ List.replicate (nL - av.length) none = L) (h : AW l D cA A ad y cc nL ret R Post 0 0 lv V sz 0 L []) : CT l D cA A ad y cc nL ret R av lv V sz Post := CT.of hy hn (by rw [hL]; exact h)
theorem AW.to {L' : List (Option AV)} {st' : List AV} (kk : AW l D cA A ad y cc nL ret R Post cells slots lv V sz pc L st) (hL : L' = L) (hs : st' = st) : AW l D cA A ad y cc nL ret R Post cells slots lv V sz pc L' st' := by rw [hL, hs]; exact kk
theorem AW.toV {L' : List (Option AV)} {V' : Vw} (kk : AW l D cA A ad y cc nL ret R Post cells slots lv V sz pc L st) (hL : L' = L) (hV : V' = V) : AW l D cA A ad y cc nL ret R Post cells slots lv V' sz pc L' st := by rw [hL, hV]; exact kk
end ENG4
/-- fewer locals known -/
def lessL : List (Option AV) → List (Option AV) → Prop
  | [], _ => True
  | none :: a, _ :: b => lessL a b
  | some x :: a, some z :: b => x = z ∧ lessL a b
  | _, _ => False
theorem lessL_at : ∀ (a b : List (Option AV)) (i : Nat) (v : AV), lessL a b → a[i]? = some (some v) → b[i]? = some (some v)
  | [], _, i, v, _, h => by simp at h
  | none :: a, [], i, v, hl, h => hl.elim
  | none :: a, z :: b, 0, v, hl, h => by simp at h
  | none :: a, z :: b, i + 1, v, hl, h => by
    simp only [List.getElem?_cons_succ] at h ⊢
    exact lessL_at a b i v hl h
  | some x :: a, [], i, v, hl, h => hl.elim
  | some x :: a, none :: b, i, v, hl, h => hl.elim
  | some x :: a, some z :: b, 0, v, hl, h => by
    simp only [List.getElem?_cons_zero] at h ⊢
    rw [← hl.1]; exact h
  | some x :: a, some z :: b, i + 1, v, hl, h => by
    simp only [List.getElem?_cons_succ] at h ⊢
    exact lessL_at a b i v hl.2 h
theorem AW.less {l : Launch} {D : va_G} {cA : Nat → ClassId} {A : Nat → Prop} {ad : Ad} {y : MethodName} {cc : ByteArray} {nL : Nat} {ret : Option FieldType} {R : Room} {Post : Pst} {cells slots : Nat} {lv : Lw} {V : Vw} {sz pc : Nat} {L L0 : List (Option AV)} {st : List AV} (h : lessL L0 L) (kk : AW l D cA A ad y cc nL ret R Post cells slots lv V sz pc L0 st) : AW l D cA A ad y cc nL ret R Post cells slots lv V sz pc L st := by
  intro p e s m args below meth c H locs ls X hA hH hS hL
  exact kk p e s m args below meth c H locs ls X hA hH hS ⟨hL.1, hL.2.1, fun i v hi => hL.2.2 i v (lessL_at _ _ i v h hi)⟩
theorem AW.lss {l : Launch} {D : va_G} {cA : Nat → ClassId} {A : Nat → Prop} {ad : Ad} {y : MethodName} {cc : ByteArray} {nL : Nat} {ret : Option FieldType} {R : Room} {Post : Pst} {cells slots : Nat} {lv : Lw} {V : Vw} {sz pc : Nat} {L L0 : List (Option AV)} {st : List AV} (kk : AW l D cA A ad y cc nL ret R Post cells slots lv V sz pc L0 st) (h : lessL L0 L) : AW l D cA A ad y cc nL ret R Post cells slots lv V sz pc L st := AW.less h kk
theorem AW.lsV {l : Launch} {D : va_G} {cA : Nat → ClassId} {A : Nat → Prop} {ad : Ad} {y : MethodName} {cc : ByteArray} {nL : Nat} {ret : Option FieldType} {R : Room} {Post : Pst} {cells slots : Nat} {lv : Lw} {V V' : Vw} {sz pc : Nat} {L L0 : List (Option AV)} {st : List AV} (kk : AW l D cA A ad y cc nL ret R Post cells slots lv V sz pc L0 st) (h : lessL L0 L) (hV : V' = V) : AW l D cA A ad y cc nL ret R Post cells slots lv V' sz pc L st := by rw [hV]; exact AW.less h kk
