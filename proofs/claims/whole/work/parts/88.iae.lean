theorem vtI_g : (Cond.classLink RX8 125 IAE :: Cond.initialized IAE :: vx_atS RX8 129 IAE exN).all vx_ot = true := by decide +kernel
