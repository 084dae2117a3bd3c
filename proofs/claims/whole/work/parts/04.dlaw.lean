theorem all_cut {α : Type} {p : α → Bool} {l : List α} (k : Nat) (h1 : (l.take k).all p = true) (h2 : (l.drop k).all p = true) : l.all p = true := by
  rw [← List.take_append_drop k l, List.all_append, h1, h2]; rfl
set_option maxRecDepth 100000 in
theorem chkW_ok0 : ((cd217.drop 0).take 60).all (fun x => chkB 217 x.1 x.2.1 x.2.2) = true := by decide +kernel
set_option maxRecDepth 100000 in
theorem chkW_ok1 : ((cd217.drop 60).take 60).all (fun x => chkB 217 x.1 x.2.1 x.2.2) = true := by decide +kernel
set_option maxRecDepth 100000 in
theorem chkW_ok2 : ((cd217.drop 120).take 60).all (fun x => chkB 217 x.1 x.2.1 x.2.2) = true := by decide +kernel
set_option maxRecDepth 100000 in
theorem chkW_ok3 : ((cd217.drop 180).take 60).all (fun x => chkB 217 x.1 x.2.1 x.2.2) = true := by decide +kernel
set_option maxRecDepth 100000 in
theorem chkW_ok4 : ((cd217.drop 240).take 60).all (fun x => chkB 217 x.1 x.2.1 x.2.2) = true := by decide +kernel
set_option maxRecDepth 100000 in
theorem chkW_ok5 : ((cd217.drop 300).take 60).all (fun x => chkB 217 x.1 x.2.1 x.2.2) = true := by decide +kernel
set_option maxRecDepth 100000 in
theorem chkW_ok6 : ((cd217.drop 360).take 60).all (fun x => chkB 217 x.1 x.2.1 x.2.2) = true := by decide +kernel
set_option maxRecDepth 100000 in
theorem chkW_ok7 : ((cd217.drop 420).take 60).all (fun x => chkB 217 x.1 x.2.1 x.2.2) = true := by decide +kernel
set_option maxRecDepth 100000 in
theorem chkW_ok8 : ((cd217.drop 480).take 60).all (fun x => chkB 217 x.1 x.2.1 x.2.2) = true := by decide +kernel
set_option maxRecDepth 100000 in
theorem chkW_ok9 : ((cd217.drop 540).take 60).all (fun x => chkB 217 x.1 x.2.1 x.2.2) = true := by decide +kernel
set_option maxRecDepth 100000 in
theorem chkW_ok10 : ((cd217.drop 600).take 60).all (fun x => chkB 217 x.1 x.2.1 x.2.2) = true := by decide +kernel
set_option maxRecDepth 100000 in
theorem chkW_ok11 : ((cd217.drop 660).take 60).all (fun x => chkB 217 x.1 x.2.1 x.2.2) = true := by decide +kernel
set_option maxRecDepth 100000 in
theorem chkW_ok12 : ((cd217.drop 720).take 60).all (fun x => chkB 217 x.1 x.2.1 x.2.2) = true := by decide +kernel
