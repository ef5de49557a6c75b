/-! a small machine of its own: cells by number, their shapes, their numbers; every step of it is a step of the machine (part 08) -/
abbrev az_Shp : Type := Nat × Nat × List (Option (Option Nat))
abbrev az_G : Type := List az_Shp × (Nat → Nat → Int32) × (Nat → Nat → Int64) × Nat × Nat
abbrev az_Ls : Type := List (Option Value)
abbrev az_O : Type := Nat × Option Value × az_G
abbrev az_Nx : Type := Nat × az_Ls × List Value × az_G
abbrev az_X : Type := Nat × (Nat → Int32)
def az_scr : Nat := 1000000
def az_up (I : Nat → Nat → Int32) (a k : Nat) (x : Int32) : Nat → Nat → Int32 := fun b j => if b = a ∧ j = k then x else I b j
def az_upJ (J : Nat → Nat → Int64) (a k : Nat) (x : Int64) : Nat → Nat → Int64 := fun b j => if b = a ∧ j = k then x else J b j
def az_clr (I : Nat → Nat → Int32) (a : Nat) : Nat → Nat → Int32 := fun b j => if a ≤ b then 0 else I b j
def az_clrJ (J : Nat → Nat → Int64) (a : Nat) : Nat → Nat → Int64 := fun b j => if a ≤ b then 0 else J b j
def az_in (x : Int32) (n : Nat) : Bool := decide (¬ (x < 0 ∨ n ≤ x.toNatClampNeg))
def az_cat (l : List Value) : Nat := (l.map fun v => v.category).sum
def az_b2 (f : Int32 → Int32 → Int32) (nx : Nat) (L : az_Ls) (st : List Value) (G : az_G) : Option az_Nx := match st with
  | .int y :: .int x :: r => some (nx, L, .int (f x y) :: r, G)
  | _ => none
def az_dv (f : Int32 → Int32 → Int32) (nx : Nat) (L : az_Ls) (st : List Value) (G : az_G) : Option az_Nx := match st with
  | .int y :: .int x :: r => if y = 0 then none else some (nx, L, .int (f x y) :: r, G)
  | _ => none
def az_ild (n nx : Nat) (L : az_Ls) (st : List Value) (G : az_G) : Option az_Nx := match L[n]? with
  | some (some (.int x)) => some (nx, L, .int x :: st, G)
  | _ => none
def az_ald (n nx : Nat) (L : az_Ls) (st : List Value) (G : az_G) : Option az_Nx := match L[n]? with
  | some (some (.ref x)) => some (nx, L, .ref x :: st, G)
  | _ => none
def az_ist (n nx : Nat) (L : az_Ls) (st : List Value) (G : az_G) : Option az_Nx := match st with
  | .int x :: r => if n < L.length then some (nx, L.set n (some (.int x)), r, G) else none
  | _ => none
def az_ast (n nx : Nat) (L : az_Ls) (st : List Value) (G : az_G) : Option az_Nx := match st with
  | .ref x :: r => if n < L.length then some (nx, L.set n (some (.ref x)), r, G) else none
  | _ => none
def az_inc (n : Nat) (v : Int) (nx : Nat) (L : az_Ls) (st : List Value) (G : az_G) : Option az_Nx := match L[n]? with
  | some (some (.int x)) => some (nx, L.set n (some (.int (x + Int32.ofInt v))), st, G)
  | _ => none
def az_br (b : Bool) (off : Int) (pc nx : Nat) (L : az_Ls) (st : List Value) (G : az_G) : Option az_Nx :=
  if 0 ≤ (pc : Int) + off then (if b then some (((pc : Int) + off).toNat, L, st, G) else some (nx, L, st, G)) else none
def az_if1 (f : Int32 → Bool) (off : Int) (pc nx : Nat) (L : az_Ls) (st : List Value) (G : az_G) : Option az_Nx := match st with
  | .int x :: r => az_br (f x) off pc nx L r G
  | _ => none
def az_if2 (f : Int32 → Int32 → Bool) (off : Int) (pc nx : Nat) (L : az_Ls) (st : List Value) (G : az_G) : Option az_Nx := match st with
  | .int y :: .int x :: r => az_br (f x y) off pc nx L r G
  | _ => none
def az_tsw (d lo hi : Int) (offs : Array Int) (pc : Nat) (L : az_Ls) (st : List Value) (G : az_G) : Option az_Nx := match st with
  | .int x :: r =>
    if x.toInt < lo ∨ hi < x.toInt then az_br true d pc 0 L r G else
    match offs[(x.toInt - lo).toNat]? with
    | some off => az_br true off pc 0 L r G
    | none => none
  | _ => none
/-- what a field holds -/
def az_gfl (S : List az_Shp) (I : Nat → Nat → Int32) (a ci j : Nat) : Option Value := match S[a]? with
  | some (0, c, sl) => if c = ci then (match sl[j]? with
    | some none => some (.int (I a j))
    | some (some (some r)) => some (.ref r)
    | _ => none) else none
  | _ => none
def az_gf (k x nx : Nat) (L : az_Ls) (st : List Value) (G : az_G) : Option az_Nx := match az_lk (az_own k) x, st with
  | some (0, ci, j), .ref a :: r => (match az_gfl G.1 G.2.1 a ci j with
    | some v => some (nx, L, v :: r, G)
    | none => none)
  | _, _ => none
def az_wr (k ci j : Nat) : Bool := (az_T ci j).2.2.2 == false || ((az_y k).name == "<init>" && (az_T ci j).1 == az_R (az_own k))
/-- a number goes into a field -/
def az_pfi (S : List az_Shp) (k a ci j : Nat) : Bool := match S[a]? with
  | some (0, c, sl) => c == ci && az_wr k ci j && decide (az_ty ci j = .int) && (match sl[j]? with
    | some none => true
    | _ => false)
  | _ => false
/-- a cell's number goes into a field -/
def az_pfr (S : List az_Shp) (k a ci j r : Nat) : Option (List az_Shp) := match S[a]? with
  | some (0, c, sl) => if c = ci ∧ az_wr k ci j = true ∧ (az_ty ci j).isReference = true ∧ r < S.length then (match sl[j]? with
    | some (some _) => some (S.set a (0, c, sl.set j (some (some r))))
    | _ => none) else none
  | _ => none
def az_pf (k x nx : Nat) (L : az_Ls) (st : List Value) (G : az_G) : Option az_Nx := match az_lk (az_own k) x, st with
  | some (0, ci, j), .int v :: .ref a :: r => if az_pfi G.1 k a ci j = true then some (nx, L, r, (G.1, az_up G.2.1 a j v, G.2.2)) else none
  | some (0, ci, j), .ref v :: .ref a :: r => (match az_pfr G.1 k a ci j v with
    | some S => some (nx, L, r, (S, G.2))
    | none => none)
  | _, _ => none
/-- an array's kind and length -/
def az_isA (S : List az_Shp) (kd a : Nat) (i : Int32) : Bool := match S[a]? with
  | some (d, n, _) => d == kd && az_in i n
  | none => false
def az_ial (xs : az_X) (kd k nx : Nat) (L : az_Ls) (st : List Value) (G : az_G) : Option az_Nx := match st with
  | .int i :: .ref a :: r =>
    if az_sk k = true then (if a = az_scr ∧ az_in i xs.1 = true ∧ kd = 1 then some (nx, L, .int (xs.2 i.toNatClampNeg) :: r, G) else none)
    else if az_isA G.1 kd a i = true then some (nx, L, .int (G.2.1 a i.toNatClampNeg) :: r, G) else none
  | _ => none
def az_aal (nx : Nat) (L : az_Ls) (st : List Value) (G : az_G) : Option az_Nx := match st with
  | .int i :: .ref a :: r => (match G.1[a]? with
    | some (4, n, sl) => if az_in i n = true then (match sl[i.toNatClampNeg]? with
      | some (some (some q)) => some (nx, L, .ref q :: r, G)
      | _ => none) else none
    | _ => none)
  | _ => none
def az_iast (nx : Nat) (L : az_Ls) (st : List Value) (G : az_G) : Option az_Nx := match st with
  | .int x :: .int i :: .ref a :: r => if az_isA G.1 1 a i = true then some (nx, L, r, (G.1, az_up G.2.1 a i.toNatClampNeg x, G.2.2)) else none
  | _ => none
def az_bast (nx : Nat) (L : az_Ls) (st : List Value) (G : az_G) : Option az_Nx := match st with
  | .int x :: .int i :: .ref a :: r => if az_isA G.1 2 a i = true then some (nx, L, r, (G.1, az_up G.2.1 a i.toNatClampNeg (vp_nar .boolean x), G.2.2)) else none
  | _ => none
def az_len (xs : az_X) (k nx : Nat) (L : az_Ls) (st : List Value) (G : az_G) : Option az_Nx := match st with
  | .ref a :: r => if az_sk k = true then (if a = az_scr then some (nx, L, .int (Int32.ofNat xs.1) :: r, G) else none)
    else (match G.1[a]? with
    | some (1, n, _) => some (nx, L, .int (Int32.ofNat n) :: r, G)
    | _ => none)
  | _ => none
def az_df (ci : Nat) : List (Option (Option Nat)) := (List.range (az_N ci)).map fun j => if az_ty ci j = .int then none else some none
def az_new (k x nx : Nat) (L : az_Ls) (st : List Value) (G : az_G) : Option az_Nx := match az_lk (az_own k) x with
  | some (5, ci, _) => if G.1.length < 100000 then some (nx, L, .ref G.1.length :: st, (G.1 ++ [(0, ci, az_df ci)], az_clr G.2.1 G.1.length, G.2.2.1, G.2.2.2.1 + 1, G.2.2.2.2 + az_N ci)) else none
  | _ => none
def az_nwa (kd nx : Nat) (L : az_Ls) (st : List Value) (G : az_G) : Option az_Nx := match st with
  | .int n :: r => if ¬ n < 0 ∧ n.toNatClampNeg ≤ 100000 ∧ G.1.length < 100000 then some (nx, L, .ref G.1.length :: r, (G.1 ++ [(kd, n.toNatClampNeg, [])], az_clr G.2.1 G.1.length, az_clrJ G.2.2.1 G.1.length, G.2.2.2.1 + 1, G.2.2.2.2 + n.toNatClampNeg)) else none
  | _ => none
def az_nwm (k x nx : Nat) (L : az_Ls) (st : List Value) (G : az_G) : Option az_Nx := match az_lk (az_own k) x, st with
  | some (7, _, _), .int m :: .int n :: r => if ¬ n < 0 ∧ ¬ m < 0 ∧ n.toNatClampNeg ≤ 1000 ∧ m.toNatClampNeg ≤ 1000 ∧ G.1.length < 100000 then
      some (nx, L, .ref G.1.length :: r, ((G.1 ++ [(4, n.toNatClampNeg, (List.range n.toNatClampNeg).map fun j => some (some (G.1.length + 1 + j)))]) ++ List.replicate n.toNatClampNeg (1, m.toNatClampNeg, []), az_clr G.2.1 G.1.length, G.2.2.1, G.2.2.2.1 + 1 + n.toNatClampNeg, G.2.2.2.2 + n.toNatClampNeg + n.toNatClampNeg * m.toNatClampNeg)) else none
  | _, _ => none
def az_mth (k x nx : Nat) (L : az_Ls) (st : List Value) (G : az_G) : Option az_Nx := match az_lk (az_own k) x, st with
  | some (2, _, _), .int b :: .int a :: r => if az_cat r ≤ 8 then some (nx, L, .int (if a < b then b else a) :: r, G) else none
  | some (3, _, _), .int b :: .int a :: r => if az_cat r ≤ 8 then some (nx, L, .int (if b < a then b else a) :: r, G) else none
  | _, _ => none
def az_oin (k x nx : Nat) (L : az_Ls) (st : List Value) (G : az_G) : Option az_Nx := match az_lk (az_own k) x, st with
  | some (4, _, _), .ref _ :: r => if az_cat r ≤ 8 then some (nx, L, r, G) else none
  | _, _ => none
def az_stp (xs : az_X) (k : Nat) (i : Instr) (pc nx : Nat) (L : az_Ls) (st : List Value) (G : az_G) : Option az_Nx := match i with
  | .iconst n => some (nx, L, .int (Int32.ofInt n) :: st, G)
  | .bipush n => some (nx, L, .int (Int8.ofInt n).toInt32 :: st, G)
  | .sipush n => some (nx, L, .int (Int16.ofInt n).toInt32 :: st, G)
  | .ldc x => (az_kc (az_own k) x).map fun v => (nx, L, .int v :: st, G)
  | .ldc_w x => (az_kc (az_own k) x).map fun v => (nx, L, .int v :: st, G)
  | .lconst n => some (nx, L, .long (Int64.ofNat (n : Nat)) :: st, G)
  | .iload n => az_ild n nx L st G
  | .iload_n n => az_ild n.val nx L st G
  | .aload n => az_ald n nx L st G
  | .aload_n n => az_ald n.val nx L st G
  | .istore n => az_ist n nx L st G
  | .istore_n n => az_ist n.val nx L st G
  | .astore n => az_ast n nx L st G
  | .astore_n n => az_ast n.val nx L st G
  | .iinc n v => az_inc n v nx L st G
  | .iadd => az_b2 (fun x y => x + y) nx L st G
  | .isub => az_b2 (fun x y => x - y) nx L st G
  | .imul => az_b2 (fun x y => x * y) nx L st G
  | .iand => az_b2 (fun x y => x &&& y) nx L st G
  | .ior => az_b2 (fun x y => x ||| y) nx L st G
  | .ixor => az_b2 (fun x y => x ^^^ y) nx L st G
  | .ishl => az_b2 (fun x y => x <<< (y &&& 31)) nx L st G
  | .ishr => az_b2 (fun x y => x >>> (y &&& 31)) nx L st G
  | .iushr => az_b2 (fun x y => (x.toUInt32 >>> (y.toUInt32 &&& Int32.toUInt32 31)).toInt32) nx L st G
  | .idiv => az_dv (fun x y => x / y) nx L st G
  | .irem => az_dv (fun x y => x - x / y * y) nx L st G
  | .ineg => (match st with
    | .int x :: r => some (nx, L, .int (-x) :: r, G)
    | _ => none)
  | .i2l => (match st with
    | .int x :: r => some (nx, L, .long x.toInt64 :: r, G)
    | _ => none)
  | .lcmp => (match st with
    | .long y :: .long x :: r => some (nx, L, .int (lg_cmp x y) :: r, G)
    | _ => none)
  | .ifCond .eq off => az_if1 (fun x => decide (x = 0)) off pc nx L st G
  | .ifCond .ne off => az_if1 (fun x => decide (¬ x = 0)) off pc nx L st G
  | .ifCond .lt off => az_if1 (fun x => decide (x < 0)) off pc nx L st G
  | .ifCond .ge off => az_if1 (fun x => decide (0 ≤ x)) off pc nx L st G
  | .ifCond .gt off => az_if1 (fun x => decide (0 < x)) off pc nx L st G
  | .ifCond .le off => az_if1 (fun x => decide (x ≤ 0)) off pc nx L st G
  | .if_icmp .eq off => az_if2 (fun x y => decide (x = y)) off pc nx L st G
  | .if_icmp .ne off => az_if2 (fun x y => decide (¬ x = y)) off pc nx L st G
  | .if_icmp .lt off => az_if2 (fun x y => decide (x < y)) off pc nx L st G
  | .if_icmp .ge off => az_if2 (fun x y => decide (y ≤ x)) off pc nx L st G
  | .if_icmp .gt off => az_if2 (fun x y => decide (y < x)) off pc nx L st G
  | .if_icmp .le off => az_if2 (fun x y => decide (x ≤ y)) off pc nx L st G
  | .goto off => az_br true off pc nx L st G
  | .tableswitch d lo hi offs => az_tsw d lo hi offs pc L st G
  | .dup => (match st with
    | v :: r => if v.category = 1 then some (nx, L, v :: v :: r, G) else none
    | _ => none)
  | .dup2 => (match st with
    | v :: w :: r => if v.category = 1 ∧ w.category = 1 then some (nx, L, v :: w :: v :: w :: r, G) else none
    | _ => none)
  | .getfield x => az_gf k x nx L st G
  | .putfield x => az_pf k x nx L st G
  | .iaload => az_ial xs 1 k nx L st G
  | .baload => az_ial xs 2 k nx L st G
  | .aaload => az_aal nx L st G
  | .iastore => az_iast nx L st G
  | .bastore => az_bast nx L st G
  | .arraylength => az_len xs k nx L st G
  | .new x => az_new k x nx L st G
  | .newarray .int => az_nwa 1 nx L st G
  | .newarray .boolean => az_nwa 2 nx L st G
  | .multianewarray x 2 => az_nwm k x nx L st G
  | .invokestatic x => az_mth k x nx L st G
  | .invokespecial x => az_oin k x nx L st G
  | _ => none
def az_rcv (S : List az_Shp) (m : Nat) (as : List Value) : Bool := match as with
  | .ref b :: _ => (match S[b]? with
    | some (0, ci, _) => ci == az_own m
    | _ => false)
  | _ => false
def az_cl1 (kd o x : Nat) (st : List Value) (S : List az_Shp) : Option (Nat × List Value × List Value) := match az_lk o x with
  | some (1, m, t) => if t ≤ st.length ∧ (az_kd m = kd ∨ (kd = 1 ∧ az_kd m = 3)) ∧ az_cat (st.drop t) ≤ 8 ∧ az_cat (st.take t) = t ∧ (kd = 1 ∨ az_rcv S m (st.take t).reverse = true) then some (m, (st.take t).reverse, st.drop t) else none
  | _ => none
def az_cal (k : Nat) (i : Instr) (st : List Value) (S : List az_Shp) : Option (Nat × List Value × List Value) := match i with
  | .invokevirtual x => az_cl1 0 (az_own k) x st S
  | .invokestatic x => az_cl1 1 (az_own k) x st S
  | .invokespecial x => az_cl1 2 (az_own k) x st S
  | _ => none
def az_end (k : Nat) (i : Instr) (pc : Nat) (st : List Value) (G : az_G) : Option az_O := match i with
  | .ireturn => (match st with
    | [.int v] => if az_rt k = 1 ∨ (az_rt k = 2 ∧ narrow .boolean (.int v) = .int v) then some (0, some (.int v), G) else none
    | _ => none)
  | .return_ => (match st with
    | [] => if az_rt k = 0 then some (0, none, G) else none
    | _ => none)
  | .new _ => (match st with
    | [] => (az_thr k pc).map fun E => (E, none, (G.1, G.2.1, G.2.2.1, G.2.2.2.1 + 1, G.2.2.2.2 + 6))
    | _ => none)
  | _ => none
def az_lay (m : Nat) (as : List Value) : az_Ls := as.map some ++ List.replicate (az_ml m - as.length) none
def az_hnd (k pc E : Nat) : Option (Nat × Nat) := ((az_xt k).find? (fun q => decide (q.1 ≤ pc) && decide (pc < q.2.1) && q.2.2.1 == E)).map fun q => q.2.2.2
def az_il (i : Instr) (len : Nat) : Bool := match i with
  | .bipush _ | .ldc _ | .iload _ | .aload _ | .istore _ | .astore _ | .newarray _ => len == 2
  | .sipush _ | .ldc_w _ | .iinc _ _ | .ifCond _ _ | .if_icmp _ _ | .goto _ | .getfield _ | .putfield _ | .new _ | .invokestatic _ | .invokespecial _ | .invokevirtual _ => len == 3
  | .multianewarray _ _ => len == 4
  | .tableswitch _ _ _ _ => true
  | _ => len == 1
def az_run (xs : az_X) : Nat → Nat → Nat → Nat → az_Ls → List Value → az_G → Option az_O
  | 0, _, _, _, _, _, _ => none
  | f + 1, d, k, pc, L, st, G => match decode (az_code k) pc with
    | .ok (i, len) => if az_il i len = true then (match az_end k i pc st G with
      | some o => some o
      | none => (match az_cal k i st G.1 with
        | some (m, as, rest) => (match d with
          | 0 => none
          | d + 1 => (match az_run xs f d m 0 (az_lay m as) [] G with
            | none => none
            | some o => if o.1 = 0 then az_run xs f (d + 1) k (pc + len) L (o.2.1.toList ++ rest) o.2.2 else (match az_hnd k pc o.1 with
              | some (n, nx) => az_run xs f (d + 1) k nx (L.set n none) [] o.2.2
              | none => if az_xt k = [] ∧ k ≠ az_main then some (o.1, none, o.2.2) else none)))
        | none => (match az_stp xs k i pc (pc + len) L st G with
          | some q => az_run xs f d k q.1 q.2.1 q.2.2.1 q.2.2.2
          | none => none))) else none
    | .error _ => none
