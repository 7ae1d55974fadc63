/-! the model with nothing in it -/
def mz : zMs := (fun _ => 0, fun _ => 0, fun _ => 0, 0, 0, false, fun _ => 0, fun _ => 0, fun _ => 0, fun _ => 0, fun _ => 0, fun _ => 0, fun _ => 0)
def m0 : zMs := mwT mz true
