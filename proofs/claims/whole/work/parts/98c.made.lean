/-! The fixed cells made. -/
def bc0 : BC := (0, ([some (.inr (.inr (-3))), none, none, none], ([], ([], 0))))
def bq : Option BC := bpre (bex 800 3) 232 10 bc0
#eval bq.map (fun c => (c.1, c.2.1, c.2.2.1, c.2.2.2.2))
#eval bq.map (fun c => c.2.2.2.1)
