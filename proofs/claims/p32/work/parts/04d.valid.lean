def ik_fchk (o : Nat) (e : Nat × Nat × Nat × Nat × Nat) : Bool := match vwCl[e.2.1]?, ik_oN[o]? with
  | some (C, T, N), some own => decide (e.2.2.1 < N) && decide ((T e.2.2.1).1 = C) && decide ((T e.2.2.1).2.2.2 = ik_fi e.2.1 e.2.2.1) && (match e.2.2.2.2 with
    | 0 => ik_tw e.2.2.2.1 (.fieldLink own e.1 C (T e.2.2.1).2.1 (T e.2.2.1).2.2.1)
    | _ => ik_tn e.2.2.2.1 (.fieldLinkNest own e.1 C (T e.2.2.1).2.1 (T e.2.2.1).2.2.1 "SlowerCork"))
  | _, _ => false
set_option maxRecDepth 100000 in
theorem ik_fall : ((List.range 18).all fun o => (ik_fT.getD o []).all fun c => c.2.all (ik_fchk o)) = true := by decide +kernel
def ik_ichk (o : Nat) (e : Nat × Int32 × Nat) : Bool := match ik_oN[o]? with
  | some own => ik_tw e.2.2 (.constant own e.1 e.2.1)
  | none => false
set_option maxRecDepth 100000 in
theorem ik_iall : ((List.range 18).all fun o => (ik_iT.getD o []).all fun c => c.2.all (ik_ichk o)) = true := by decide +kernel
def ik_kchk (o : Nat) (e : Nat × Int64 × Nat) : Bool := match ik_oN[o]? with
  | some own => ik_tw e.2.2 (.constantLong own e.1 e.2.1)
  | none => false
set_option maxRecDepth 100000 in
theorem ik_kall : ((List.range 18).all fun o => (ik_kT.getD o []).all fun c => c.2.all (ik_kchk o)) = true := by decide +kernel
def ik_nchk (o : Nat) (e : Nat × Nat × Nat) : Bool := match vwCl[e.2.1]?, ik_oN[o]? with
  | some (C, _, _), some own => ik_tw e.2.2 (.classLink own e.1 C)
  | _, _ => false
set_option maxRecDepth 100000 in
theorem ik_nall : ((List.range 18).all fun o => (ik_nT.getD o []).all fun c => c.2.all (ik_nchk o)) = true := by decide +kernel
def ik_achk (o : Nat) (e : Nat × Nat × Nat × Nat) : Bool := match vwCl[e.2.1]?, ik_oN[o]? with
  | some (C, _, _), some own => ik_tw e.2.2.1 (.classLink own e.1 C) && decide (ik_ix e.2.2.2 = some (.arrayOver (.object C)))
  | _, _ => false
set_option maxRecDepth 100000 in
theorem ik_aall : ((List.range 18).all fun o => (ik_aT.getD o []).all fun c => c.2.all (ik_achk o)) = true := by decide +kernel
