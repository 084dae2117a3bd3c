def inR (t : Int) : Bool := decide (0 ≤ t ∧ t < 10000)
/-- the resolved instruction ai at the real pc rp, going on at nx, is the instruction ins of length len -/
def relB (M : Nat) (ai : Instr) (rp nx : Nat) (ins : Instr) (len : Nat) : Bool :=
  match ai with
  | .iconst v => Nat.beq nx (rp + len) && (match ins with
    | .iconst n => Nat.beq len 1 && decide (n = v)
    | .bipush n => Nat.beq len 2 && decide ((Int8.ofInt n).toInt32 = Int32.ofInt v)
    | .sipush n => Nat.beq len 3 && decide ((Int16.ofInt n).toInt32 = Int32.ofInt v)
    | _ => false)
  | .iload i => Nat.beq nx (rp + len) && (match ins with
    | .iload j => Nat.beq len 2 && Nat.beq j i
    | .iload_n j => Nat.beq len 1 && Nat.beq j.val i
    | _ => false)
  | .lload i => Nat.beq nx (rp + len) && (match ins with
    | .lload j => Nat.beq len 2 && Nat.beq j i
    | .lload_n j => Nat.beq len 1 && Nat.beq j.val i
    | _ => false)
  | .aload i => Nat.beq nx (rp + len) && (match ins with
    | .aload j => Nat.beq len 2 && Nat.beq j i
    | .aload_n j => Nat.beq len 1 && Nat.beq j.val i
    | _ => false)
  | .istore i => Nat.beq nx (rp + len) && Nat.blt i (mlM M) && (match ins with
    | .istore j => Nat.beq len 2 && Nat.beq j i
    | .istore_n j => Nat.beq len 1 && Nat.beq j.val i
    | _ => false)
  | .lstore i => Nat.beq nx (rp + len) && Nat.blt (i + 1) (mlM M) && (match ins with
    | .lstore j => Nat.beq len 2 && Nat.beq j i
    | .lstore_n j => Nat.beq len 1 && Nat.beq j.val i
    | _ => false)
  | .astore i => Nat.beq nx (rp + len) && Nat.blt i (mlM M) && (match ins with
    | .astore j => Nat.beq len 2 && Nat.beq j i
    | .astore_n j => Nat.beq len 1 && Nat.beq j.val i
    | _ => false)
  | .iinc i n => Nat.beq nx (rp + 3) && Nat.beq len 3 && Nat.blt i (mlM M) && (match ins with
    | .iinc j k => Nat.beq j i && decide (k = n)
    | _ => false)
  | .ifCond c t => Nat.beq nx (rp + 3) && Nat.beq len 3 && inR t && (match ins with
    | .ifCond d q => decide (d = c) && decide ((rp : Int) + q = t)
    | _ => false)
  | .if_icmp c t => Nat.beq nx (rp + 3) && Nat.beq len 3 && inR t && (match ins with
    | .if_icmp d q => decide (d = c) && decide ((rp : Int) + q = t)
    | _ => false)
  | .ifnull t => Nat.beq nx (rp + 3) && Nat.beq len 3 && inR t && (match ins with
    | .ifnull q => decide ((rp : Int) + q = t)
    | _ => false)
  | .ifnonnull t => Nat.beq nx (rp + 3) && Nat.beq len 3 && inR t && (match ins with
    | .ifnonnull q => decide ((rp : Int) + q = t)
    | _ => false)
  | .goto t => Nat.beq len 3 && inR t && (match ins with
    | .goto q => decide ((rp : Int) + q = t)
    | _ => false)
  | .tableswitch d lo hi os => inR d && os.toList.all inR && (match ins with
    | .tableswitch d2 lo2 hi2 os2 => decide (lo2 = lo) && decide (hi2 = hi) && decide ((rp : Int) + d2 = d) && decide (os2.toList.map (fun q => (rp : Int) + q) = os.toList) && decide (hi - lo + 1 = (os.toList.length : Int))
    | _ => false)
  | .lookupswitch d ps => inR d && ps.toList.all (fun q => inR q.2) && (match ins with
    | .lookupswitch d2 ps2 => decide ((rp : Int) + d2 = d) && decide (ps2.toList.map (fun q => (q.1, (rp : Int) + q.2)) = ps.toList) && (ps2.toList.zip (ps2.toList.drop 1)).all (fun (a, b) => decide (a.1 < b.1))
    | _ => false)
  | .getfield n => Nat.beq nx (rp + 3) && Nat.beq len 3 && (match ins, feT[n / 10000]? with
    | .getfield i, some (w, j, ci, k, _, _) => Nat.beq w (owM M) && Nat.beq i j && Nat.beq ci (n % 10000 / 100) && Nat.beq k (n % 100)
    | _, _ => false)
  | .putfield n => Nat.beq nx (rp + 3) && Nat.beq len 3 && (match ins, feT[n / 10000]? with
    | .putfield i, some (w, j, ci, k, _, _) => Nat.beq w (owM M) && Nat.beq i j && Nat.beq ci (n % 10000 / 100) && Nat.beq k (n % 100)
    | _, _ => false)
  | .invokevirtual n => Nat.beq nx (rp + 3) && Nat.beq len 3 && Nat.ble (frM (n % 1000) + 1) (frM M) && Nat.ble (8 + (mlM (n % 1000) + 11) + loM (n % 1000)) (loM M) && (match ins, meT[n / 1000]? with
    | .invokevirtual i, some (w, j, mi, kd, _, _, _, _, _, _) => Nat.beq w (owM M) && Nat.beq i j && Nat.beq mi (n % 1000) && Nat.beq kd 0
    | _, _ => false)
  | .invokestatic n => Nat.beq nx (rp + 3) && Nat.beq len 3 && Nat.ble (frM (n % 1000) + 1) (frM M) && Nat.ble (8 + (mlM (n % 1000) + 11) + loM (n % 1000)) (loM M) && (match ins, meT[n / 1000]? with
    | .invokestatic i, some (w, j, mi, kd, _, _, _, _, _, _) => Nat.beq w (owM M) && Nat.beq i j && Nat.beq mi (n % 1000) && Nat.beq kd 1
    | _, _ => false)
  | .invokespecial n => Nat.beq nx (rp + 3) && Nat.beq len 3 && Nat.ble (frM (n % 1000) + 1) (frM M) && Nat.ble (8 + (mlM (n % 1000) + 11) + loM (n % 1000)) (loM M) && (match ins, meT[n / 1000]? with
    | .invokespecial i, some (w, j, mi, kd, _, _, _, _, _, _) => Nat.beq w (owM M) && Nat.beq i j && Nat.beq mi (n % 1000) && Nat.beq kd 2
    | _, _ => false)
  | .new n => Nat.beq nx (rp + 3) && Nat.beq len 3 && (match ins, neT[n / 100]? with
    | .new i, some (w, j, ci, _, _, _, _) => Nat.beq w (owM M) && Nat.beq i j && Nat.beq ci (n % 100)
    | _, _ => false)
  | .newarray a => Nat.beq nx (rp + 2) && Nat.beq len 2 && (match ins with
    | .newarray b => decide (b = a) && (match a with
      | .int => true
      | .long => true
      | .byte => true
      | .boolean => true
      | _ => false)
    | _ => false)
  | .anewarray n => Nat.beq nx (rp + 3) && Nat.beq len 3 && (match ins, aeT[n / 100]? with
    | .anewarray i, some (w, j, t, _, _) => Nat.beq w (owM M) && Nat.beq i j && Nat.beq t (n % 100)
    | _, _ => false)
  | .ldc n => Nat.beq nx (rp + 2) && Nat.beq len 2 && (match ins, lsT[n / 100]? with
    | .ldc i, some (w, j, k, _) => Nat.beq w (owM M) && Nat.beq i j && Nat.beq k (n % 100)
    | _, _ => false)
  | .ldc_w e => Nat.beq nx (rp + len) && (match ins, kiT[e]? with
    | .ldc i, some (w, j, _, _) => Nat.beq len 2 && Nat.beq w (owM M) && Nat.beq i j
    | .ldc_w i, some (w, j, _, _) => Nat.beq len 3 && Nat.beq w (owM M) && Nat.beq i j
    | _, _ => false)
  | .ldc2_w e => Nat.beq nx (rp + 3) && Nat.beq len 3 && (match ins, klT[e]? with
    | .ldc2_w i, some (w, j, _, _) => Nat.beq w (owM M) && Nat.beq i j
    | _, _ => false)
  | .getstatic n => Nat.beq nx (rp + 3) && Nat.beq len 3 && (match ins, seT[n / 100]? with
    | .getstatic i, some (w, j, k, _, _) => Nat.beq w (owM M) && Nat.beq i j && Nat.beq k (n % 100)
    | _, _ => false)
  | .invokedynamic n => Nat.beq nx (rp + 3) && Nat.beq len 3 && Nat.ble 1 (frM M) && Nat.ble 40 (loM M + 20) && (match ieT[n / 10]? with
    | some (w, j, p) => Nat.beq w (owM M) && (match n % 10 with
      | 0 => decide (ins = .invokestatic j) && hasG p (.methodLink (ownS w) j arraycopyName) && Nat.ble 26 (loM M)
      | 1 => decide (ins = .invokevirtual j) && hasG p (.methodLink (ownS w) j ⟨"[I", "clone", "()Ljava/lang/Object;"⟩) && Nat.ble 22 (loM M)
      | 2 => decide (ins = .invokevirtual j) && hasG p (.methodLink (ownS w) j yJ0_length_8abf5) && Nat.ble 5 (frM M) && Nat.ble 120 (loM M)
      | 3 => decide (ins = .invokevirtual j) && hasG p (.methodLink (ownS w) j yJ0_charAt_5068e) && Nat.ble 5 (frM M) && Nat.ble 120 (loM M)
      | 4 => decide (ins = .invokespecial j) && hasG p (.methodLink (ownS w) j objectInit)
      | 5 => decide (ins = .invokestatic j) && hasG p (.methodLink (ownS w) j Lib.Math.min.name) && Nat.ble 30 (loM M)
      | 6 => decide (ins = .invokestatic j) && hasG p (.methodLink (ownS w) j Lib.Math.max.name) && Nat.ble 30 (loM M)
      | _ => false)
    | none => false)
  | .checkcast _ => Nat.beq nx (rp + 3) && Nat.beq len 3 && decide (ins = ai)
  | _ => Nat.beq nx (rp + 1) && Nat.beq len 1 && decide (ins = ai)
def chkB (M pc : Nat) (ai : Instr) (nx : Nat) : Bool :=
  match ai with
  | .ret _ => Nat.blt pc 10000 && Nat.beq nx (pc + 10000)
  | _ => Nat.blt nx 10000 && (match decode (bM M) (pc % 10000) with
    | .ok (ins, len) => relB M ai (pc % 10000) nx ins len
    | .error _ => false)
def chkL (M : Nat) : Bool := (cdT.getD M []).all (fun x => chkB M x.1 x.2.1 x.2.2)
set_option maxRecDepth 100000 in
theorem chkL_ok0 : ((List.range 21).map (fun i => i + 0)).all chkL = true := by decide +kernel
set_option maxRecDepth 100000 in
theorem chkL_ok1 : ((List.range 9).map (fun i => i + 21)).all chkL = true := by decide +kernel
set_option maxRecDepth 100000 in
theorem chkL_ok2 : ((List.range 30).map (fun i => i + 30)).all chkL = true := by decide +kernel
set_option maxRecDepth 100000 in
theorem chkL_ok3 : ((List.range 13).map (fun i => i + 60)).all chkL = true := by decide +kernel
set_option maxRecDepth 100000 in
theorem chkL_ok4 : ((List.range 12).map (fun i => i + 73)).all chkL = true := by decide +kernel
set_option maxRecDepth 100000 in
theorem chkL_ok5 : ((List.range 14).map (fun i => i + 85)).all chkL = true := by decide +kernel
set_option maxRecDepth 100000 in
theorem chkL_ok6 : ((List.range 9).map (fun i => i + 99)).all chkL = true := by decide +kernel
set_option maxRecDepth 100000 in
theorem chkL_ok7 : ((List.range 10).map (fun i => i + 108)).all chkL = true := by decide +kernel
set_option maxRecDepth 100000 in
theorem chkL_ok8 : ((List.range 14).map (fun i => i + 118)).all chkL = true := by decide +kernel
set_option maxRecDepth 100000 in
theorem chkL_ok9 : ((List.range 12).map (fun i => i + 132)).all chkL = true := by decide +kernel
set_option maxRecDepth 100000 in
theorem chkL_ok10 : ((List.range 8).map (fun i => i + 144)).all chkL = true := by decide +kernel
set_option maxRecDepth 100000 in
theorem chkL_ok11 : ((List.range 1).map (fun i => i + 152)).all chkL = true := by decide +kernel
set_option maxRecDepth 100000 in
theorem chkL_ok12 : ((List.range 1).map (fun i => i + 153)).all chkL = true := by decide +kernel
set_option maxRecDepth 100000 in
theorem chkL_ok13 : ((List.range 8).map (fun i => i + 154)).all chkL = true := by decide +kernel
set_option maxRecDepth 100000 in
theorem chkL_ok14 : ((List.range 10).map (fun i => i + 162)).all chkL = true := by decide +kernel
set_option maxRecDepth 100000 in
theorem chkL_ok15 : ((List.range 9).map (fun i => i + 172)).all chkL = true := by decide +kernel
set_option maxRecDepth 100000 in
theorem chkL_ok16 : ((List.range 5).map (fun i => i + 181)).all chkL = true := by decide +kernel
set_option maxRecDepth 100000 in
theorem chkL_ok17 : ((List.range 5).map (fun i => i + 186)).all chkL = true := by decide +kernel
set_option maxRecDepth 100000 in
theorem chkL_ok18 : ((List.range 2).map (fun i => i + 191)).all chkL = true := by decide +kernel
set_option maxRecDepth 100000 in
theorem chkL_ok19 : ((List.range 3).map (fun i => i + 193)).all chkL = true := by decide +kernel
set_option maxRecDepth 100000 in
theorem chkL_ok20 : ((List.range 1).map (fun i => i + 196)).all chkL = true := by decide +kernel
set_option maxRecDepth 100000 in
theorem chkL_ok21 : ((List.range 2).map (fun i => i + 197)).all chkL = true := by decide +kernel
set_option maxRecDepth 100000 in
theorem chkL_ok22 : ((List.range 5).map (fun i => i + 199)).all chkL = true := by decide +kernel
set_option maxRecDepth 100000 in
theorem chkL_ok23 : ((List.range 7).map (fun i => i + 204)).all chkL = true := by decide +kernel
set_option maxRecDepth 100000 in
theorem chkL_ok24 : ((List.range 1).map (fun i => i + 211)).all chkL = true := by decide +kernel
set_option maxRecDepth 100000 in
theorem chkL_ok25 : ((List.range 5).map (fun i => i + 212)).all chkL = true := by decide +kernel
